import java.util.function.ToLongFunction;

/**
 * REFUSALS: each call's own, of several the first that it names, and that what is refused changes nothing: an object
 * that refused is compared with one that was never asked, by all that both tell then and later.
 */
public final class RefusalsTest {
    private static final int UNKNOWN = ShipFromItself.UNKNOWN;
    private static final int OUTSIDE = ShipFromItself.OUTSIDE;
    private static final int STATE = ShipFromItself.STATE;
    private static final int FULL = ShipFromItself.FULL;
    private static final int NONE = ShipFromItself.NONE;
    private static final int MIN = Integer.MIN_VALUE;
    private static final int MAX = Integer.MAX_VALUE;

    /** 0 bears 2, 3, 4; 1 bears 6; 2 bears 7; 5 is long; 1, 4, 5, 6, 7 are OPEN. */
    private static final String SHIP = "S220P94-05O33-P63011P52020O410O63-O111O112";

    private enum At {
        /** Nothing was ever called. */
        FIRST,
        /** A SHIP; no ACT, nothing kept. */
        NEW_SHIP,
        /** Two ACTS: 3 is LAID, WATER is 9; slot 0 is filled; THE TEXT has a FAULT. */
        AFLOAT,
        /** Her WATER is more than THE HOLD bears. */
        SUNK,
        /** 24 ACTS. */
        FULL_ROW,
        /** A text of 70 bytes. */
        LONG_TEXT;

        ShipFromItself made() {
            ShipFromItself x = new ShipFromItself();
            if (this == FIRST) {
                return x;
            }
            Check.write(x, SHIP);
            x.ship();
            if (this == NEW_SHIP) {
                return x;
            }
            x.keep(0);
            x.take(3);
            x.watch();
            x.write(1, '?');
            if (this == SUNK) {
                watch(x, 5);
            } else if (this == FULL_ROW) {
                x.back();
                act(x, 23);
            } else if (this == LONG_TEXT) {
                Check.write(x, "O".repeat(70 - x.count(0)));
            }
            return x;
        }

        private static void watch(ShipFromItself x, int watches) {
            for (int i = 0; i < watches; i++) {
                x.watch();
            }
        }

        private static void act(ShipFromItself x, int acts) {
            for (int i = 0; i < acts; i++) {
                if (x.put(3, 3) < 0) {
                    x.take(3);
                }
            }
        }
    }

    public static void main(String[] args) {
        Check.sentence("the states that the tests start from", RefusalsTest::states);
        Check.sentence("NONE is -9", RefusalsTest::constants);
        Check.sentence("of several the first that a call names", RefusalsTest::firstNamed);
        Check.sentence("write: OUTSIDE; FULL", RefusalsTest::write);
        Check.sentence("ship: STATE: a FAULT", RefusalsTest::ship);
        Check.sentence("place: UNKNOWN; OUTSIDE", RefusalsTest::place);
        Check.sentence("timber: UNKNOWN; OUTSIDE", RefusalsTest::timber);
        Check.sentence("take: UNKNOWN; STATE", RefusalsTest::take);
        Check.sentence("put: UNKNOWN: timber, place; STATE", RefusalsTest::put);
        Check.sentence("move: UNKNOWN: timber, place; STATE", RefusalsTest::move);
        Check.sentence("watch: STATE: it is SUNK", RefusalsTest::watch);
        Check.sentence("back: STATE: there is none", RefusalsTest::back);
        Check.sentence("harm: UNKNOWN; STATE: it is OPEN", RefusalsTest::harm);
        Check.sentence("may: UNKNOWN: timber, place", RefusalsTest::may);
        Check.sentence("best, bestAt: OUTSIDE: k; STATE: she is SUNK", RefusalsTest::best);
        Check.sentence("port, portAt: OUTSIDE: n; STATE: she is SUNK", RefusalsTest::port);
        Check.sentence("storm: OUTSIDE: x, y", RefusalsTest::storm);
        Check.sentence("share: UNKNOWN: ship", RefusalsTest::share);
        Check.sentence("log: OUTSIDE: k, places; STATE: she is SUNK", RefusalsTest::log);
        Check.sentence("keep: UNKNOWN", RefusalsTest::keep);
        Check.sentence("again: UNKNOWN; STATE: none were kept", RefusalsTest::again);
        Check.sentence("count: OUTSIDE", RefusalsTest::count);
        Check.sentence("a full row of ACTS forgets none by what is refused", RefusalsTest::fullRow);
        Check.sentence("what only asks changes nothing", RefusalsTest::asking);
        Check.end();
    }

    private static void refused(At at, String call, long want, ToLongFunction<ShipFromItself> asked) {
        ShipFromItself x = at.made();
        Check.due(at + ": " + call, asked.applyAsLong(x), want);
        Check.due(at + ": " + call + " once more", asked.applyAsLong(x), want);
        Told.same(at + ": " + call, x, at.made());
    }

    private static void states() {
        ShipFromItself x = At.AFLOAT.made();
        Check.due("WATER", x.count(5), 9);
        Check.due("ACTS", x.count(9), 2);
        Check.due("LAID", x.count(3), 1);
        Check.due("bytes", x.count(0), SHIP.length() + 1);
        Check.due("SUNK", At.SUNK.made().count(6), 1);
        Check.due("ACTS", At.FULL_ROW.made().count(9), 24);
        Check.due("bytes", At.LONG_TEXT.made().count(0), 70);
    }

    private static void constants() {
        Check.due("UNKNOWN", UNKNOWN, -1);
        Check.due("OUTSIDE", OUTSIDE, -2);
        Check.due("STATE", STATE, -3);
        Check.due("FULL", FULL, -4);
        Check.due("NONE", NONE, -9);
    }

    private static void firstNamed() {
        refused(At.LONG_TEXT, "write(9, 0): OUTSIDE, FULL", OUTSIDE, x -> x.write(9, 0));
        refused(At.AFLOAT, "place(8, 4): UNKNOWN, OUTSIDE", UNKNOWN, x -> x.place(8, 4));
        refused(At.AFLOAT, "timber(8, 4): UNKNOWN, OUTSIDE", UNKNOWN, x -> x.timber(8, 4));
        refused(At.SUNK, "take(8): UNKNOWN, STATE", UNKNOWN, x -> x.take(8));
        refused(At.SUNK, "put(8, 8): UNKNOWN, STATE", UNKNOWN, x -> x.put(8, 8));
        refused(At.SUNK, "move(8, 8): UNKNOWN, STATE", UNKNOWN, x -> x.move(8, 8));
        refused(At.AFLOAT, "put(0, 8): UNKNOWN, STATE", UNKNOWN, x -> x.put(0, 8));
        refused(At.AFLOAT, "move(0, 8): UNKNOWN, STATE", UNKNOWN, x -> x.move(0, 8));
        refused(At.SUNK, "may(8, 0): UNKNOWN, 0", UNKNOWN, x -> x.may(8, 0));
        refused(At.SUNK, "best(3): OUTSIDE, STATE", OUTSIDE, x -> x.best(3));
        refused(At.SUNK, "bestAt(3, 9): OUTSIDE, STATE", OUTSIDE, x -> x.bestAt(3, 9));
        refused(At.SUNK, "port(100): OUTSIDE, STATE", OUTSIDE, x -> x.port(100));
        refused(At.SUNK, "portAt(100, 9): OUTSIDE, STATE", OUTSIDE, x -> x.portAt(100, 9));
        refused(At.SUNK, "log(4, 0): OUTSIDE, STATE", OUTSIDE, x -> x.log(4, 0));
        refused(At.SUNK, "log(0, 256): OUTSIDE, STATE", OUTSIDE, x -> x.log(0, 256));
        refused(At.FIRST, "again(2): UNKNOWN, STATE", UNKNOWN, x -> x.again(2));
    }

    private static void write() {
        for (int n : new int[] {0, 9, -1, 10, 64, 72, MIN, MAX}) {
            refused(At.FIRST, "write(" + n + ", S..)", OUTSIDE, x -> x.write(n, 'S'));
            refused(At.AFLOAT, "write(" + n + ", 0)", OUTSIDE, x -> x.write(n, 0));
            refused(At.LONG_TEXT, "write(" + n + ", 0)", OUTSIDE, x -> x.write(n, 0));
        }
        for (int n = 3; n <= 8; n++) {
            int bytes = n;
            refused(At.LONG_TEXT, "write(" + n + ", 0)", FULL, x -> x.write(bytes, 0));
        }
        for (int n = 1; n <= 2; n++) {
            Check.due("write(" + n + ", 0)", At.LONG_TEXT.made().write(n, 0), 70 + n);
        }
    }

    private static void ship() {
        for (At at : new At[] {At.FIRST, At.AFLOAT, At.SUNK, At.LONG_TEXT}) {
            refused(at, "ship()", STATE, x -> x.ship());
        }
    }

    private static void place() {
        for (int place : new int[] {8, -1, 9, 10, 100, -9, MIN, MAX}) {
            refused(At.AFLOAT, "place(" + place + ", 0)", UNKNOWN, x -> x.place(place, 0));
            refused(At.AFLOAT, "place(" + place + ", 4)", UNKNOWN, x -> x.place(place, 4));
            refused(At.SUNK, "place(" + place + ", -1)", UNKNOWN, x -> x.place(place, -1));
        }
        for (int what : new int[] {4, -1, 5, 10, MIN, MAX}) {
            refused(At.AFLOAT, "place(0, " + what + ")", OUTSIDE, x -> x.place(0, what));
            refused(At.SUNK, "place(7, " + what + ")", OUTSIDE, x -> x.place(7, what));
            refused(At.FIRST, "place(0, " + what + ")", UNKNOWN, x -> x.place(0, what));
        }
    }

    private static void timber() {
        for (int timber : new int[] {8, -1, 9, 10, 100, -9, MIN, MAX}) {
            refused(At.AFLOAT, "timber(" + timber + ", 0)", UNKNOWN, x -> x.timber(timber, 0));
            refused(At.AFLOAT, "timber(" + timber + ", 4)", UNKNOWN, x -> x.timber(timber, 4));
            refused(At.SUNK, "timber(" + timber + ", -1)", UNKNOWN, x -> x.timber(timber, -1));
        }
        for (int what : new int[] {4, -1, 5, 10, MIN, MAX}) {
            refused(At.AFLOAT, "timber(0, " + what + ")", OUTSIDE, x -> x.timber(0, what));
            refused(At.SUNK, "timber(7, " + what + ")", OUTSIDE, x -> x.timber(7, what));
            refused(At.FIRST, "timber(0, " + what + ")", UNKNOWN, x -> x.timber(0, what));
        }
    }

    private static void take() {
        for (int place : new int[] {8, -1, 10, MIN, MAX}) {
            refused(At.AFLOAT, "take(" + place + ")", UNKNOWN, x -> x.take(place));
            refused(At.SUNK, "take(" + place + ")", UNKNOWN, x -> x.take(place));
        }
        refused(At.FIRST, "take(0)", UNKNOWN, x -> x.take(0));
        refused(At.AFLOAT, "take(1): it was always OPEN", STATE, x -> x.take(1));
        refused(At.AFLOAT, "take(3): it is OPEN now", STATE, x -> x.take(3));
        refused(At.AFLOAT, "take(0): 2 rests on it", STATE, x -> x.take(0));
        refused(At.SUNK, "take(2): it is SUNK", STATE, x -> x.take(2));
        Check.due("take(2)", At.AFLOAT.made().take(2), 2);
    }

    private static void put() {
        for (int none : new int[] {8, -1, 10, MIN, MAX}) {
            refused(At.AFLOAT, "put(" + none + ", 1)", UNKNOWN, x -> x.put(none, 1));
            refused(At.AFLOAT, "put(3, " + none + ")", UNKNOWN, x -> x.put(3, none));
            refused(At.SUNK, "put(" + none + ", 1)", UNKNOWN, x -> x.put(none, 1));
            refused(At.SUNK, "put(3, " + none + ")", UNKNOWN, x -> x.put(3, none));
        }
        refused(At.FIRST, "put(0, 0)", UNKNOWN, x -> x.put(0, 0));
        refused(At.AFLOAT, "put(2, 1): it is in a PLACE", STATE, x -> x.put(2, 1));
        refused(At.AFLOAT, "put(1, 4): it never was", STATE, x -> x.put(1, 4));
        refused(At.AFLOAT, "put(3, 0): it is not OPEN", STATE, x -> x.put(3, 0));
        refused(At.AFLOAT, "put(3, 5): it is shorter", STATE, x -> x.put(3, 5));
        refused(At.AFLOAT, "put(3, 6): that rests on an OPEN one", STATE, x -> x.put(3, 6));
        refused(At.SUNK, "put(3, 3): it is SUNK", STATE, x -> x.put(3, 3));
        Check.due("put(3, 3)", At.AFLOAT.made().put(3, 3), 5);
    }

    private static void move() {
        for (int none : new int[] {8, -1, 10, MIN, MAX}) {
            refused(At.AFLOAT, "move(" + none + ", 1)", UNKNOWN, x -> x.move(none, 1));
            refused(At.AFLOAT, "move(2, " + none + ")", UNKNOWN, x -> x.move(2, none));
            refused(At.SUNK, "move(" + none + ", 1)", UNKNOWN, x -> x.move(none, 1));
            refused(At.SUNK, "move(2, " + none + ")", UNKNOWN, x -> x.move(2, none));
        }
        refused(At.FIRST, "move(0, 0)", UNKNOWN, x -> x.move(0, 0));
        refused(At.AFLOAT, "move(0, 1): 2 rests on it", STATE, x -> x.move(0, 1));
        refused(At.AFLOAT, "move(1, 4): it never was", STATE, x -> x.move(1, 4));
        refused(At.AFLOAT, "move(2, 2): no other one", STATE, x -> x.move(2, 2));
        refused(At.AFLOAT, "move(2, 0): it is not OPEN", STATE, x -> x.move(2, 0));
        refused(At.AFLOAT, "move(2, 6): that rests on an OPEN one", STATE, x -> x.move(2, 6));
        refused(At.AFLOAT, "move(2, 7): that rests on what it left", STATE, x -> x.move(2, 7));
        refused(At.AFLOAT, "move(3, 5): it is shorter", STATE, x -> x.move(3, 5));
        refused(At.SUNK, "move(2, 1): it is SUNK", STATE, x -> x.move(2, 1));
        refused(At.SUNK, "move(3, 3): it is SUNK", STATE, x -> x.move(3, 3));
        Check.due("move(2, 1)", At.AFLOAT.made().move(2, 1), 3);
        Check.due("move(2, 5): just as long", At.AFLOAT.made().move(2, 5), 6);
    }

    private static void watch() {
        refused(At.SUNK, "watch()", STATE, x -> x.watch());
    }

    private static void back() {
        refused(At.FIRST, "back()", STATE, x -> x.back());
        refused(At.NEW_SHIP, "back()", STATE, x -> x.back());
    }

    private static void harm() {
        for (int place : new int[] {8, -1, 10, MIN, MAX}) {
            refused(At.AFLOAT, "harm(" + place + ")", UNKNOWN, x -> x.harm(place));
            refused(At.SUNK, "harm(" + place + ")", UNKNOWN, x -> x.harm(place));
        }
        refused(At.FIRST, "harm(0)", UNKNOWN, x -> x.harm(0));
        refused(At.AFLOAT, "harm(1)", STATE, x -> x.harm(1));
        refused(At.AFLOAT, "harm(3)", STATE, x -> x.harm(3));
        refused(At.SUNK, "harm(7)", STATE, x -> x.harm(7));
    }

    private static void may() {
        for (int none : new int[] {8, -1, 10, MIN, MAX}) {
            refused(At.AFLOAT, "may(" + none + ", 1)", UNKNOWN, x -> x.may(none, 1));
            refused(At.AFLOAT, "may(2, " + none + ")", UNKNOWN, x -> x.may(2, none));
            refused(At.SUNK, "may(" + none + ", 1)", UNKNOWN, x -> x.may(none, 1));
            refused(At.SUNK, "may(2, " + none + ")", UNKNOWN, x -> x.may(2, none));
        }
        refused(At.FIRST, "may(0, 0)", UNKNOWN, x -> x.may(0, 0));
    }

    private static void best() {
        for (int k : new int[] {-1, 3, 4, 10, MIN, MAX}) {
            for (At at : new At[] {At.FIRST, At.AFLOAT, At.SUNK}) {
                refused(at, "best(" + k + ")", OUTSIDE, x -> x.best(k));
                refused(at, "bestAt(" + k + ", 0)", OUTSIDE, x -> x.bestAt(k, 0));
                refused(at, "bestAt(" + k + ", -1)", OUTSIDE, x -> x.bestAt(k, -1));
            }
        }
        for (int k = 0; k <= 2; k++) {
            int moves = k;
            refused(At.SUNK, "best(" + k + ")", STATE, x -> x.best(moves));
            refused(At.SUNK, "bestAt(" + k + ", 0)", STATE, x -> x.bestAt(moves, 0));
            refused(At.SUNK, "bestAt(" + k + ", 5)", STATE, x -> x.bestAt(moves, 5));
            refused(At.SUNK, "bestAt(" + k + ", -1)", STATE, x -> x.bestAt(moves, -1));
        }
    }

    private static void port() {
        for (int n : new int[] {0, 100, -1, 101, MIN, MAX}) {
            for (At at : new At[] {At.FIRST, At.AFLOAT, At.SUNK}) {
                refused(at, "port(" + n + ")", OUTSIDE, x -> x.port(n));
                refused(at, "portAt(" + n + ", 0)", OUTSIDE, x -> x.portAt(n, 0));
                refused(at, "portAt(" + n + ", -1)", OUTSIDE, x -> x.portAt(n, -1));
            }
        }
        for (int n : new int[] {1, 2, 98, 99}) {
            refused(At.SUNK, "port(" + n + ")", STATE, x -> x.port(n));
            refused(At.SUNK, "portAt(" + n + ", 0)", STATE, x -> x.portAt(n, 0));
            refused(At.SUNK, "portAt(" + n + ", 5)", STATE, x -> x.portAt(n, 5));
            refused(At.SUNK, "portAt(" + n + ", -1)", STATE, x -> x.portAt(n, -1));
        }
    }

    private static void storm() {
        for (At at : new At[] {At.FIRST, At.AFLOAT, At.SUNK}) {
            for (int x : new int[] {-1, 11, MIN, MAX}) {
                refusedFraction(at, "storm(" + x + ", 0)", OUTSIDE, (ship, upper) -> ship.storm(x, 0, upper));
                refusedFraction(at, "storm(" + x + ", 100)", OUTSIDE, (ship, upper) -> ship.storm(x, 100, upper));
            }
            for (int y : new int[] {-1, 100, MIN, MAX}) {
                refusedFraction(at, "storm(0, " + y + ")", OUTSIDE, (ship, upper) -> ship.storm(0, y, upper));
                refusedFraction(at, "storm(10, " + y + ")", OUTSIDE, (ship, upper) -> ship.storm(10, y, upper));
            }
        }
    }

    private static void share() {
        for (At at : new At[] {At.FIRST, At.AFLOAT, At.SUNK}) {
            for (int ship : new int[] {-1, 3, 4, 10, MIN, MAX}) {
                refusedFraction(at, "share(" + ship + ")", UNKNOWN, (x, upper) -> x.share(ship, upper));
            }
        }
    }

    private interface Fraction {
        long of(ShipFromItself x, boolean upper);
    }

    /** "refusals of them are told likewise": above and below. */
    private static void refusedFraction(At at, String call, long want, Fraction fraction) {
        refused(at, call + " above", want, x -> fraction.of(x, true));
        refused(at, call + " below", want, x -> fraction.of(x, false));
    }

    private static void log() {
        for (At at : new At[] {At.AFLOAT, At.SUNK}) {
            for (int k : new int[] {-1, 4, MIN, MAX}) {
                refused(at, "log(" + k + ", 0)", OUTSIDE, x -> x.log(k, 0));
            }
            for (int places : new int[] {-1, 256, 257, 512, 1024, MIN, MAX}) {
                refused(at, "log(0, " + places + ")", OUTSIDE, x -> x.log(0, places));
                refused(at, "log(3, " + places + ")", OUTSIDE, x -> x.log(3, places));
            }
        }
        for (int k = 0; k <= 3; k++) {
            int moves = k;
            refused(At.FIRST, "log(" + k + ", 1): no PLACES", OUTSIDE, x -> x.log(moves, 1));
            refused(At.SUNK, "log(" + k + ", 0)", STATE, x -> x.log(moves, 0));
            refused(At.SUNK, "log(" + k + ", 255)", STATE, x -> x.log(moves, 255));
        }
    }

    private static void keep() {
        for (At at : new At[] {At.FIRST, At.AFLOAT, At.SUNK}) {
            for (int slot : new int[] {-1, 2, 3, MIN, MAX}) {
                refused(at, "keep(" + slot + ")", UNKNOWN, x -> x.keep(slot));
            }
        }
    }

    private static void again() {
        for (At at : new At[] {At.FIRST, At.AFLOAT, At.SUNK}) {
            for (int slot : new int[] {-1, 2, 3, MIN, MAX}) {
                refused(at, "again(" + slot + ")", UNKNOWN, x -> x.again(slot));
            }
            refused(at, "again(1)", STATE, x -> x.again(1));
        }
        refused(At.FIRST, "again(0)", STATE, x -> x.again(0));
        refused(At.NEW_SHIP, "again(0)", STATE, x -> x.again(0));
    }

    private static void count() {
        for (At at : new At[] {At.FIRST, At.AFLOAT, At.SUNK}) {
            for (int what : new int[] {-1, 10, 11, MIN, MAX}) {
                refused(at, "count(" + what + ")", OUTSIDE, x -> x.count(what));
            }
        }
    }

    /** A refused ACT that was remembered all the same would push the first one out. */
    private static void fullRow() {
        refused(At.FULL_ROW, "take(0)", STATE, x -> x.take(0));
        refused(At.FULL_ROW, "take(8)", UNKNOWN, x -> x.take(8));
        refused(At.FULL_ROW, "put(3, 5)", STATE, x -> x.put(3, 5));
        refused(At.FULL_ROW, "put(8, 0)", UNKNOWN, x -> x.put(8, 0));
        refused(At.FULL_ROW, "move(0, 1)", STATE, x -> x.move(0, 1));
        refused(At.FULL_ROW, "move(0, 8)", UNKNOWN, x -> x.move(0, 8));
        refused(At.FULL_ROW, "again(1)", STATE, x -> x.again(1));
        refused(At.FULL_ROW, "ship()", STATE, x -> x.ship());
    }

    private static void asking() {
        for (At at : new At[] {At.AFLOAT, At.SUNK, At.FULL_ROW}) {
            for (int one = 0; one < 19; one++) {
                int which = one;
                ShipFromItself x = at.made();
                long first = ask(x, which);
                Check.due(at + ": question " + which + " once more", ask(x, which), first);
                Told.same(at + ": question " + which, x, at.made());
            }
        }
    }

    private static long ask(ShipFromItself x, int which) {
        switch (which) {
            case 0: return x.fault();
            case 1: return x.place(0, 3);
            case 2: return x.timber(2, 3);
            case 3: return x.leak();
            case 4: return x.floats();
            case 5: return x.harm(0);
            case 6: return x.may(2, 1);
            case 7: return x.best(0);
            case 8: return x.best(2);
            case 9: return x.bestAt(2, 1);
            case 10: return x.port(1);
            case 11: return x.port(99);
            case 12: return x.portAt(5, 0);
            case 13: return x.storm(10, 99, true);
            case 14: return x.storm(4, 9, false);
            case 15: return x.share(0, true);
            case 16: return x.log(2, 31);
            case 17: return x.log(3, 255);
            default: return x.count(9);
        }
    }
}
