import java.util.function.Supplier;
import java.util.function.ToLongFunction;

/** Calls at a bound and just beyond it, and that a refused call changes nothing. */
final class Bounds {
    static final int MIN = Integer.MIN_VALUE;
    static final int MAX = Integer.MAX_VALUE;

    /** A call with the number whose bounds are looked at. */
    interface Call {
        long on(StormPipes x, int v);
    }

    private Bounds() {
    }

    /**
     * The call answers what is due, and leaves the object as one that never had the call: in what
     * is told at once, after more seconds, and after more calls. Each time with two new objects,
     * so that none has more than 512 calls.
     */
    static void changesNothing(String what, Supplier<StormPipes> maker, ToLongFunction<StormPipes> call, long due) {
        StormPipes x = maker.get();
        Check.same(what, call.applyAsLong(x), due);
        Check.same(what + ", told at once,", Picture.now(x), Picture.now(maker.get()));
        StormPipes y = maker.get();
        call.applyAsLong(y);
        Check.same(what + ", told later,", Picture.later(y), Picture.later(maker.get()));
        StormPipes z = maker.get();
        call.applyAsLong(z);
        Check.same(what + ", told after more calls,", Picture.afterMore(z), Picture.afterMore(maker.get()));
    }

    static void isBad(String what, Supplier<StormPipes> maker, ToLongFunction<StormPipes> call) {
        changesNothing(what, maker, call, -1);
    }

    /** Numbers just beyond the bounds, and far beyond, are refused with the answer that is due, and nothing changes. */
    static void refusesBeyond(String what, Supplier<StormPipes> maker, int least, int most, Call call, long due) {
        int[] beyond = {least - 1, most + 1, MIN, MAX};
        for (int v : beyond) {
            changesNothing(what + " " + v, maker, x -> call.on(x, v), due);
        }
    }

    /** Each number at and next to the bounds adds one of a kind, with the next number; those beyond are BAD. */
    static void adds(String what, Supplier<StormPipes> maker, int kind, int least, int most, Call call) {
        for (int v : within(least, most)) {
            StormPipes x = maker.get();
            int before = x.count(kind);
            Check.same(what + " " + v, call.on(x, v), before);
            Check.same(what + " " + v + ": count", x.count(kind), before + 1);
        }
        refusesBeyond(what, maker, least, most, call, -1);
    }

    /** At most so many of a kind: each of them has the next number, the one behind the last is BAD. */
    static void addsAtMost(String what, Supplier<StormPipes> maker, int kind, int most, ToLongFunction<StormPipes> call) {
        StormPipes x = maker.get();
        for (int number = x.count(kind); number < most; number++) {
            Check.same(what, call.applyAsLong(x), number);
            Check.same(what + ": count", x.count(kind), number + 1);
        }
        Check.same(what + ": all came", x.count(kind), most);
        isBad(what + " beyond " + most, () -> filled(maker, kind, most, call), call);
    }

    static StormPipes filled(Supplier<StormPipes> maker, int kind, int most, ToLongFunction<StormPipes> call) {
        StormPipes x = maker.get();
        for (int number = x.count(kind); number < most; number++) {
            call.applyAsLong(x);
        }
        return x;
    }

    static int[] within(int least, int most) {
        return new int[] {least, least + 1, most - 1, most};
    }

    /** So many litres come to a node in each second of minute 0, if it has no area yet. */
    static void rainLitres(StormPipes x, int node, int litres) {
        // 60 squares at 1,000 thousandths a minute, and no loss: a litre a second.
        x.area(node, 60 * litres, 0);
        x.rain(0, 1_000);
    }

    /** Three nodes and two of all that lies at them, half a minute on; a list and a line that is laid. */
    static StormPipes busy() {
        StormPipes x = new StormPipes(5);
        x.node(-990, -1_000, 3);
        x.node(-1_480, -1_500, 2);
        x.node(-880, -900, 1);
        x.pipe(0, 1, 900, 110);
        x.pipe(2, 1, 1_300, 90);
        x.area(0, 590, 100);
        x.area(2, 470, 7);
        x.rain(0, 1_700);
        x.rain(1, 900);
        x.rain(1_439, 11);
        x.pump(1, 2, -1_490, -1_498, 5);
        x.pump(0, 2, -995, -999, 2);
        x.gate(1, 5, 2);
        x.gate(2, 15, 1);
        x.gully(4, 0, 6);
        x.gully(5, 1, 3);
        x.street(2, 4);
        x.street(0, 5);
        x.list(100, 10);
        x.list(150, 12);
        x.begin(0, -1_200);
        x.piece(-50, 40, 1);
        x.piece(-60, 30, 20);
        x.lay(300, 2);
        x.run(30);
        return x;
    }
}
