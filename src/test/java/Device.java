import java.util.ArrayList;
import java.util.List;
import java.util.function.ToLongFunction;

/**
 * A LoopDevice that keeps to the document's limit: no object is promised beyond 512 calls. When those
 * are used up, the calls that changed something are made again on a new object, which is asked from
 * then on. A test that itself needs more changes than that is wrong, and is told so.
 */
final class Device {
    static final int MOST_CALLS = 512;

    private final int maker;
    private final int kind;
    private final int number;
    private final List<ToLongFunction<LoopDevice>> changes = new ArrayList<>();
    private LoopDevice object;
    private int calls;

    Device(int maker, int kind, int number) {
        this.maker = maker;
        this.kind = kind;
        this.number = number;
        object = new LoopDevice(maker, kind, number);
    }

    int octet(int b) {
        return (int) change(x -> x.octet(b));
    }

    int octets(int w) {
        return (int) change(x -> x.octets(w));
    }

    int tick(int n) {
        return (int) change(x -> x.tick(n));
    }

    long variable(int i, int v) {
        return change(x -> x.variable(i, v));
    }

    int failure(boolean on) {
        return (int) change(x -> x.failure(on));
    }

    int sent(int i) {
        return (int) call(x -> x.sent(i));
    }

    int when(int i) {
        return (int) call(x -> x.when(i));
    }

    long has(int what) {
        return call(x -> x.has(what));
    }

    int tag(int i) {
        return (int) call(x -> x.tag(i));
    }

    int now() {
        return (int) call(x -> x.now());
    }

    /** How many more calls that change something fit into the limit, with one left to ask. */
    int changesLeft() {
        return MOST_CALLS - 1 - changes.size();
    }

    private long change(ToLongFunction<LoopDevice> what) {
        long answer = call(what);
        changes.add(what);
        return answer;
    }

    private long call(ToLongFunction<LoopDevice> what) {
        if (calls >= MOST_CALLS) {
            renew();
        }
        calls++;
        return what.applyAsLong(object);
    }

    private void renew() {
        if (changes.size() >= MOST_CALLS) {
            throw new IllegalStateException("the test needs more calls than an object is promised for");
        }
        object = new LoopDevice(maker, kind, number);
        calls = 0;
        for (ToLongFunction<LoopDevice> what : changes) {
            what.applyAsLong(object);
            calls++;
        }
    }
}
