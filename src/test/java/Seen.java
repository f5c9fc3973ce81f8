import java.util.ArrayList;
import java.util.List;
import java.util.function.Supplier;
import java.util.function.ToLongFunction;

/**
 * All that can be seen of an object, in one list: two objects made alike show like lists, unless a call in between has
 * changed something. Looking uses the object up, as TAPE, SLOTS and IMAGES are seen only by reading them in, and makes
 * no more than some 400 calls, of the 512 that an object has.
 */
final class Seen {
    private static final int[] LENGTHS = {0, 1, 2, 3, 6, 60};

    private final RoadShut x;
    private final boolean faultToo;
    private final List<Long> list = new ArrayList<>();

    private Seen(RoadShut x, boolean faultToo) {
        this.x = x;
        this.faultToo = faultToo;
    }

    static List<Long> of(RoadShut x) {
        return of(x, true);
    }

    /** A land() that is refused has a FAULT of its own; all else stays. */
    static List<Long> ofAllButFault(RoadShut x) {
        return of(x, false);
    }

    private static List<Long> of(RoadShut x, boolean faultToo) {
        Seen seen = new Seen(x, faultToo);
        seen.state();
        seen.land();
        seen.slots();
        seen.told();
        seen.images();
        seen.tape();
        return seen.list;
    }

    /** The call answers what is due, and all is then as if it had not been made. */
    static void stays(Check check, String call, Supplier<RoadShut> made, ToLongFunction<RoadShut> refused, long due) {
        RoadShut asked = made.get();
        check.due(call, refused.applyAsLong(asked), due);
        check.holds("all stays behind " + call, of(asked).equals(of(made.get())));
    }

    private void add(long answer) {
        list.add(answer);
    }

    private void state() {
        for (int what = 0; what <= 7; what++) {
            add(x.count(what));
        }
        if (faultToo) {
            add(x.fault(0));
            add(x.fault(1));
        }
        int valleys = x.count(0);
        for (int valley = 0; valley < valleys; valley++) {
            add(x.shut(valley));
        }
    }

    private void land() {
        int valleys = x.count(0);
        int things = x.count(1);
        for (int valley = 0; valley < valleys; valley++) {
            add(x.shuts(valley, 1));
            add(x.packed(valley));
            add(x.fed(valley, (valley + 1) % valleys));
            for (int thing = 0; thing < things; thing++) {
                add(x.cost(valley, thing, 3));
                add(x.late(valley, thing));
            }
        }
        add(x.flown(0, 0, 1));
        add(x.fork(0, 1, 0, 2));
    }

    private void slots() {
        int last = x.count(0) - 1;
        for (int slot = 0; slot < 4; slot++) {
            for (int length : LENGTHS) {
                add(x.paste(slot, length, slot, length, 0));
            }
            add(x.paste(slot, 0, (slot + 1) % 4, 0, 0));
            for (int valley = 0; valley <= last; valley += Math.max(1, last)) {
                add(x.given(slot, 0, 1000, valley));
                add(x.judge(slot, valley));
                add(x.paid(slot, valley, 0));
            }
        }
    }

    private void told() {
        int valleys = x.count(0);
        for (int slot = 0; slot < 4; slot++) {
            add(x.told(slot));
            for (int valley = 0; valley < valleys; valley++) {
                add(x.shut(valley));
            }
        }
    }

    private void images() {
        for (int k = 0; k < 3; k++) {
            add(x.back(k));
            state();
            add(x.cost(0, 0, 1));
        }
    }

    private void tape() {
        int bytes = x.count(5);
        add(x.land());
        state();
        land();
        // behind a FAULT the TAPE is seen from its other end
        if (bytes > 0 && x.count(5) > 0) {
            add(x.end(bytes - 1));
            add(x.land());
            state();
        }
    }
}
