/** How she is (promises 13 to 20): the boundaries, each by the sentence that names it. */
public final class EdgesOfFloatingTest {
    private static final int UNKNOWN = ShipFromItself.UNKNOWN;
    private static final int OUTSIDE = ShipFromItself.OUTSIDE;
    private static final int STATE = ShipFromItself.STATE;
    private static final int NONE = ShipFromItself.NONE;

    public static void main(String[] args) {
        Check.sentence("LEAK: what all OPEN PLACES LET IN", EdgesOfFloatingTest::leak);
        Check.sentence("LEAK of a SUNK ship", EdgesOfFloatingTest::leakOfSunk);
        Check.sentence("FLOATS: WATCHES she is not SUNK in (99 at most)", EdgesOfFloatingTest::floatsUpTo99);
        Check.sentence("FLOATS: 99 at most, where worms eat first", EdgesOfFloatingTest::floatsWithWorms);
        Check.sentence("FLOATS: what RESTS on an OPEN one comes down first", EdgesOfFloatingTest::floatsWithWhatFalls);
        Check.sentence("FLOATS: from now on", EdgesOfFloatingTest::floatsFromNowOn);
        Check.sentence("FLOATS: PUMPS and LEAK", EdgesOfFloatingTest::floatsByPumps);
        Check.sentence("FLOATS (0: she is SUNK)", EdgesOfFloatingTest::floatsOfSunk);
        Check.sentence("FLOATS is how often watch() is not SUNK", EdgesOfFloatingTest::floatsAsWatched);
        Check.sentence("HARM: if that were LOST now, and all came down as told", EdgesOfFloatingTest::harm);
        Check.sentence("HARM: again and again", EdgesOfFloatingTest::harmOfTower);
        Check.sentence("HARM: UNKNOWN; STATE: it is OPEN", EdgesOfFloatingTest::harmRefused);
        Check.sentence("HARM of a PLACE, not of a TIMBER's number", EdgesOfFloatingTest::harmOfMoved);
        Check.sentence("may: 1 just where move() is not refused", EdgesOfFloatingTest::mayAsMoved);
        Check.sentence("may: 0 too where she is SUNK", EdgesOfFloatingTest::mayOfSunk);
        Check.sentence("BEST by k (0 to 2)", EdgesOfFloatingTest::bestOfK);
        Check.sentence("BEST: by k MOVES or fewer; of like ones fewest MOVES", EdgesOfFloatingTest::bestFewest);
        Check.sentence("BEST: the first row of these", EdgesOfFloatingTest::bestFirst);
        Check.sentence("BEST: MOVES told as 10 times the TIMBER and the PLACE", EdgesOfFloatingTest::bestTold);
        Check.sentence("bestAt: the i-th MOVE (from 0); NONE: there is none such", EdgesOfFloatingTest::bestAtOutOfRow);
        Check.sentence("BEST without PLACES, without MOVES", EdgesOfFloatingTest::bestOfNothing);
        Check.sentence("BEST: STATE: she is SUNK, till it is taken back", EdgesOfFloatingTest::bestOfSunk);
        Check.sentence("PORT in n WATCHES (1 to 99)", EdgesOfFloatingTest::portOfN);
        Check.sentence("PORT: FLOATS is n or more then", EdgesOfFloatingTest::portNOrMore);
        Check.sentence("PORT: the fewest MOVES (2 at most); NONE", EdgesOfFloatingTest::portTwoAtMost);
        Check.sentence("PORT: the first row of these", EdgesOfFloatingTest::portFirst);
        Check.sentence("portAt: the i-th MOVE (from 0); NONE: there is none such", EdgesOfFloatingTest::portAtOutOfRow);
        Check.sentence("PORT without PLACES, without MOVES", EdgesOfFloatingTest::portOfNothing);
        Check.sentence("PORT: STATE: she is SUNK, till it is taken back", EdgesOfFloatingTest::portOfSunk);
        Check.end();
    }

    private static void due(String call, long got, long want) {
        Check.due(call, got, want);
    }

    private static ShipFromItself shipOf(String text) {
        return Check.shipOf(text);
    }

    private static String hold(int hold) {
        return "" + hold / 10 + hold % 10;
    }

    private static void leak() {
        due("no PLACES", shipOf("S001").leak(), 0);
        due("none OPEN", shipOf("S001" + "P19-00".repeat(10)).leak(), 0);
        due("all OPEN", shipOf("S001" + "O19-".repeat(10)).leak(), 90);
        due("OPEN, but it LETS IN none", shipOf("S001O10-").leak(), 0);
        due("the first and the last", shipOf("S001O13-" + "P19-00".repeat(8) + "O14-").leak(), 7);
        ShipFromItself x = shipOf("S999" + "P19-09".repeat(10));
        x.take(9);
        due("the last one TAKEN", x.leak(), 9);
        x.watch();
        due("all LOST but it", x.leak(), 90);
        x.put(9, 0);
        due("one PUT", x.leak(), 81);
        x.move(9, 5);
        due("one MOVED", x.leak(), 81);
    }

    private static void leakOfSunk() {
        ShipFromItself x = shipOf("S001O19-P13-00");
        x.take(1);
        x.watch();
        due("SUNK", x.count(6), 1);
        due("leak()", x.leak(), 12);
    }

    private static void floatsUpTo99() {
        due("98", shipOf("S098O11-").floats(), 98);
        due("99", shipOf("S099O11-").floats(), 99);
        due("for ever", shipOf("S099O10-").floats(), 99);
        due("for ever, without PLACES", shipOf("S001").floats(), 99);
        due("for ever, with PUMPS", shipOf("S901O19-").floats(), 99);
        due("at first", new ShipFromItself().floats(), 99);
        for (int hold = 1; hold <= 99; hold++) {
            for (int leak = 1; leak <= 9; leak++) {
                ShipFromItself x = shipOf("S0" + hold(hold) + "O1" + leak + "-");
                due("hold " + hold + ", leak " + leak, x.floats(), hold / leak);
            }
        }
    }

    private static void floatsWithWorms() {
        // 1 WORM: it is LOST in the 9th WATCH, and lets in from the 10th on.
        due("9 and 89", shipOf("S089P11-01").floats(), 98);
        due("9 and 90", shipOf("S090P11-01").floats(), 99);
        due("9 and 91", shipOf("S091P11-01").floats(), 99);
        due("9 and 99", shipOf("S099P11-01").floats(), 99);
        due("1 and 97", shipOf("S097P11-09").floats(), 98);
        due("1 and 98", shipOf("S098P11-09").floats(), 99);
        due("1 and 99", shipOf("S099P11-09").floats(), 99);
        due("1, and then at once", shipOf("S001P19-09").floats(), 1);
        due("9, and then at once", shipOf("S001P19-01").floats(), 9);
        due("no WORMS", shipOf("S001P19-00").floats(), 99);
        due("what rests on it too", shipOf("S008P11-01P18000").floats(), 9);
        due("and 1 more", shipOf("S009P11-01P18000").floats(), 10);
        ShipFromItself laid = shipOf("S001P10-09P19000");
        laid.take(1);
        laid.put(1, 1);
        laid.take(1);
        due("LAID with an OPEN PLACE", laid.floats(), 0);
        ShipFromItself wait = shipOf("S999P19-09");
        wait.take(0);
        due("WORMS of a LAID one wait", wait.floats(), 99);
    }

    private static void floatsWithWhatFalls() {
        // Told on an OPEN one: it comes down in the first WATCH, and lets in from the second on.
        due("none of THE HOLD at first, then 9 a WATCH", shipOf("S020O10-P19000").floats(), 3);
        due("THE HOLD is full by 2 WATCHES", shipOf("S018O10-P19000").floats(), 3);
        due("1 less", shipOf("S017O10-P19000").floats(), 2);
        due("all of a tower at once", shipOf("S015O10-P14000P15100P16200").floats(), 2);
        due("it LETS IN none", shipOf("S001O10-P10000").floats(), 99);
        due("PUMPS are good enough", shipOf("S901O10-P19000").floats(), 99);
    }

    private static void floatsFromNowOn() {
        ShipFromItself x = shipOf("S099O12-");
        for (int left = 49; left >= 0; left--) {
            due("floats()", x.floats(), left);
            due("WATER stays", x.count(5), 2 * (49 - left));
            x.watch();
        }
        due("SUNK", x.count(6), 1);
        due("floats()", x.floats(), 0);
        ShipFromItself dry = shipOf("S105P15-00O10-");
        dry.take(0);
        dry.watch();
        due("WATER", dry.count(5), 4);
        due("the next one sinks her", dry.floats(), 0);
        dry.put(0, 0);
        due("PUMPS throw it out", dry.floats(), 99);
    }

    private static void floatsByPumps() {
        due("LEAK 1 more", shipOf("S899O19-").floats(), 99);
        due("LEAK 2 more", shipOf("S799O19-").floats(), 49);
        due("LEAK as PUMPS", shipOf("S901O19-").floats(), 99);
        due("LEAK less", shipOf("S901O18-").floats(), 99);
        due("the most there is", shipOf("S089" + "O19-".repeat(10)).floats(), 0);
        due("and THE HOLD bears it", shipOf("S090" + "O19-".repeat(10)).floats(), 1);
        due("with PUMPS", shipOf("S981" + "O19-".repeat(10)).floats(), 1);
        due("with PUMPS, 1 less", shipOf("S980" + "O19-".repeat(10)).floats(), 0);
    }

    private static void floatsOfSunk() {
        ShipFromItself x = shipOf("S001O19-");
        due("the next one sinks her", x.floats(), 0);
        x.watch();
        due("SUNK", x.floats(), 0);
        // SUNK for good, even where PUMPS would be good enough.
        ShipFromItself y = shipOf("S901P19-00O19-P19-00");
        y.take(0);
        y.watch();
        due("SUNK", y.count(6), 1);
        due("floats()", y.floats(), 0);
        y.back();
        y.put(0, 0);
        due("floats() behind what is taken back", y.floats(), 99);
    }

    private static void floatsAsWatched() {
        String[] texts = {"S120P95-05P53019O380", "S350P94-07P53018P52022O380O511", "S099O12-P91-09P91109",
            "S040P19-03P19-06P19-09", "S230O10-P14000P15101P16200", "S999P99-01", "S299P93-09P93008P93107O93-"};
        for (String text : texts) {
            ShipFromItself x = shipOf(text);
            int told = x.floats();
            int watched = 0;
            for (int watch = 0; watch < 99 && x.count(6) == 0; watch++) {
                x.watch();
                watched += x.count(6) == 0 ? 1 : 0;
            }
            due("floats() of " + text, told, watched);
        }
    }

    private static void harm() {
        ShipFromItself x = shipOf("S099P14-00P13-00O12-");
        due("harm(0): and what is OPEN", x.harm(0), 6);
        due("harm(1)", x.harm(1), 5);
        due("harm(0) of the only one", shipOf("S099P19-00").harm(0), 9);
        due("harm(0) that LETS IN none", shipOf("S099P10-00").harm(0), 0);
        due("harm(9)", shipOf("S099" + "O19-".repeat(9) + "P19-00").harm(9), 90);
        ShipFromItself worms = shipOf("S099P11-09P12-00");
        due("harm(1): no WATCH is in it", worms.harm(1), 2);
        due("leak(): nothing is changed", x.leak(), 2);
        due("harm(0): the same once more", x.harm(0), 6);
    }

    private static void harmOfTower() {
        String text = "S099P11-00";
        for (int place = 1; place < 10; place++) {
            text += "P11" + (place - 1) + "00";
        }
        ShipFromItself x = shipOf(text);
        for (int place = 0; place < 10; place++) {
            due("harm(" + place + ")", x.harm(place), 10 - place);
        }
        ShipFromItself y = shipOf("S099P11-00P12000P13100P14000P15-00O16-");
        due("harm(0): 1 and 2 and 3 come down", y.harm(0), 6 + 1 + 2 + 3 + 4);
        due("harm(1): 2 comes down", y.harm(1), 6 + 2 + 3);
        due("harm(2)", y.harm(2), 6 + 3);
        due("harm(3)", y.harm(3), 6 + 4);
        due("harm(4): none comes down", y.harm(4), 6 + 5);
        ShipFromItself hung = shipOf("S099O11-P12000P13100P14-00");
        due("harm(3): what rests on an OPEN one comes down too", hung.harm(3), 1 + 2 + 3 + 4);
        due("harm(2)", hung.harm(2), 1 + 2 + 3);
        due("leak()", hung.leak(), 1);
    }

    private static void harmRefused() {
        for (int places = 0; places <= 10; places++) {
            ShipFromItself x = shipOf("S099" + "P11-00".repeat(places));
            due("harm(" + places + ")", x.harm(places), UNKNOWN);
            due("harm(-1)", x.harm(-1), UNKNOWN);
            if (places > 0) {
                due("harm of the last", x.harm(places - 1), 1);
                x.take(places - 1);
                due("harm of an OPEN one", x.harm(places - 1), STATE);
            }
        }
    }

    private static void harmOfMoved() {
        ShipFromItself x = shipOf("S099P21-00P22-00O13-P14-00");
        x.move(0, 2);
        due("harm(0): OPEN", x.harm(0), STATE);
        due("harm(2): 0 is in it", x.harm(2), 1 + 3);
        due("harm(1)", x.harm(1), 1 + 2);
        ShipFromItself y = shipOf("S099P11-00P12-00O131");
        y.move(0, 2);
        due("harm(1): what was MOVED onto it comes down", y.harm(1), 1 + 2 + 3);
    }

    private static void mayAsMoved() {
        String[] texts = {"S099P94-00P53010P52020O380P61100O424O51-", "S099O11-P11000P11100",
            "S099P31-00O31-O41-O21-O310", "S099" + "P11-00".repeat(5) + "O11-".repeat(5)};
        for (String text : texts) {
            int places = shipOf(text).count(1);
            for (int timber = 0; timber < places; timber++) {
                for (int place = 0; place < places; place++) {
                    ShipFromItself x = shipOf(text);
                    int may = x.may(timber, place);
                    due("move(" + timber + ", " + place + ") of " + text, x.move(timber, place),
                        may == 1 ? x.place(place, 0) : STATE);
                    due("ACTS", x.count(9), may);
                }
            }
        }
    }

    private static void mayOfSunk() {
        ShipFromItself x = shipOf("S001O19-P11-00P11-00");
        x.take(2);
        due("may(1, 0)", x.may(1, 0), 1);
        due("may(2, 0)", x.may(2, 0), 1);
        x.watch();
        due("may(1, 0): SUNK", x.may(1, 0), 0);
        due("may(2, 0): SUNK", x.may(2, 0), 0);
        due("may(3, 0): SUNK, and no such TIMBER", x.may(3, 0), UNKNOWN);
        due("may(0, 3): SUNK, and no such PLACE", x.may(0, 3), UNKNOWN);
        x.back();
        due("may(1, 0)", x.may(1, 0), 1);
    }

    private static void best(ShipFromItself x, int k, int leak, int... row) {
        due("best(" + k + ")", x.best(k), leak);
        for (int i = 0; i < 3; i++) {
            due("bestAt(" + k + ", " + i + ")", x.bestAt(k, i), i < row.length ? row[i] : NONE);
        }
    }

    private static void bestOfK() {
        // A third MOVE would do better still.
        ShipFromItself x = shipOf("S099O16-O15-O14-P10-00P10-00P10-00");
        best(x, 0, 15);
        best(x, 1, 9, 30);
        best(x, 2, 4, 30, 41);
        ShipFromItself y = shipOf("S099O59-P55-00O35-P32-00");
        best(y, 0, 14);
        best(y, 1, 10, 10);
        best(y, 2, 7, 10, 32);
        for (int k : new int[] {3, -1, Integer.MIN_VALUE, Integer.MAX_VALUE}) {
            due("best(" + k + ")", y.best(k), OUTSIDE);
            due("bestAt(" + k + ", 0)", y.bestAt(k, 0), OUTSIDE);
        }
    }

    private static void bestFewest() {
        // By one MOVE as little as by two.
        best(shipOf("S099O19-P11-00P11-00"), 2, 1, 10);
        // By none as little as by one.
        best(shipOf("S099O19-P19-00"), 1, 9);
        best(shipOf("S099O19-P19-00"), 2, 9);
        // Less by two, by no one alone: 1 rests on 0.
        best(shipOf("S099O10-O190P10-00P10-00"), 1, 9);
        best(shipOf("S099O10-O190P10-00P10-00"), 2, 0, 20, 31);
        // k is what may be, not what must be.
        best(shipOf("S099O11-P10-00"), 2, 0, 10);
        best(shipOf("S099P10-00"), 2, 0);
    }

    private static void bestFirst() {
        // 1 or 2 into 0: the TIMBER counts first.
        best(shipOf("S099O19-P11-00P11-00"), 1, 1, 10);
        // 0 into 1 or 2: then the PLACE.
        best(shipOf("S099P10-00O12-O12-"), 1, 2, 1);
        best(shipOf("S099P10-00O12-O13-"), 1, 2, 2);
        // Two TIMBERS into two PLACES: of four rows the one that begins with the least.
        best(shipOf("S099P10-00P10-00O15-O15-"), 2, 0, 2, 13);
        best(shipOf("S099O15-O15-P10-00P10-00"), 2, 0, 20, 31);
        // Where the first MOVE of the least number leads to no such row, the next one counts.
        best(shipOf("S099O15-O25-P10-00P20-00"), 2, 0, 20, 31);
        best(shipOf("S099O25-O15-P10-00P20-00"), 2, 0, 21, 30);
    }

    private static void bestTold() {
        best(shipOf("S099P10-00" + "P19-00".repeat(8) + "O19-"), 1, 0, 9);
        best(shipOf("S099O19-" + "P19-00".repeat(8) + "P10-00"), 1, 0, 90);
        ShipFromItself x = shipOf("S099" + "P10-00".repeat(9) + "P19-00");
        x.take(9);
        best(x, 1, 0, 9);
        best(x, 0, 9);
        ShipFromItself own = shipOf("S099" + "P91-00".repeat(9) + "P99-00");
        own.take(9);
        best(own, 1, 0, 99);
        ShipFromItself first = shipOf("S099P93-00");
        first.take(0);
        best(first, 2, 0, 0);
    }

    private static void bestAtOutOfRow() {
        ShipFromItself x = shipOf("S099O15-O15-P10-00P10-00");
        due("bestAt(2, 1)", x.bestAt(2, 1), 31);
        for (int i : new int[] {2, 3, -1, 24, Integer.MIN_VALUE, Integer.MAX_VALUE}) {
            due("bestAt(2, " + i + ")", x.bestAt(2, i), NONE);
        }
        due("bestAt(1, 0)", x.bestAt(1, 0), 20);
        for (int i : new int[] {1, 2, -1, Integer.MIN_VALUE, Integer.MAX_VALUE}) {
            due("bestAt(1, " + i + ")", x.bestAt(1, i), NONE);
        }
        for (int i : new int[] {0, 1, -1, Integer.MIN_VALUE, Integer.MAX_VALUE}) {
            due("bestAt(0, " + i + ")", x.bestAt(0, i), NONE);
        }
    }

    private static void bestOfNothing() {
        for (int k = 0; k <= 2; k++) {
            best(new ShipFromItself(), k, 0);
            best(shipOf("S001"), k, 0);
            best(shipOf("S001" + "O19-".repeat(10)), k, 90);
            best(shipOf("S001" + "P19-00".repeat(10)), k, 0);
        }
    }

    private static void bestOfSunk() {
        ShipFromItself x = shipOf("S008O19-P11-00");
        x.watch();
        for (int k = 0; k <= 2; k++) {
            due("best(" + k + ")", x.best(k), STATE);
            due("bestAt(" + k + ", 0)", x.bestAt(k, 0), STATE);
        }
        due("best(3)", x.best(3), OUTSIDE);
        due("best(-1)", x.best(-1), OUTSIDE);
        x.back();
        best(x, 1, 1, 10);
    }

    private static void port(ShipFromItself x, int n, int moves, int... row) {
        due("port(" + n + ")", x.port(n), moves);
        for (int i = 0; i < 3; i++) {
            due("portAt(" + n + ", " + i + ")", x.portAt(n, i), i < row.length ? row[i] : NONE);
        }
    }

    private static void portOfN() {
        ShipFromItself x = shipOf("S099O11-P10-00");
        port(x, 1, 0);
        port(x, 99, 0);
        for (int n : new int[] {0, -1, 100, 101, Integer.MIN_VALUE, Integer.MAX_VALUE}) {
            due("port(" + n + ")", x.port(n), OUTSIDE);
            due("portAt(" + n + ", 0)", x.portAt(n, 0), OUTSIDE);
        }
        ShipFromItself y = shipOf("S098O11-P10-00");
        port(y, 98, 0);
        port(y, 99, 1, 10);
        ShipFromItself z = shipOf("S001O12-P10-00");
        port(z, 1, 1, 10);
    }

    private static void portNOrMore() {
        for (int leak = 1; leak <= 9; leak++) {
            ShipFromItself x = shipOf("S050O1" + leak + "-P10-00");
            int floats = 50 / leak;
            port(x, floats, 0);
            port(x, floats - 1 < 1 ? 1 : floats - 1, 0);
            port(x, floats + 1, 1, 10);
        }
        // By the MOVE she floats just 10 WATCHES.
        ShipFromItself x = shipOf("S050O19-P15-00");
        port(x, 5, 0);
        port(x, 6, 1, 10);
        port(x, 10, 1, 10);
        port(x, 11, NONE);
        // WATER there is counts.
        x.watch();
        port(x, 4, 0);
        port(x, 5, 1, 10);
        port(x, 8, 1, 10);
        port(x, 9, NONE);
    }

    private static void portTwoAtMost() {
        String open = "O15-";
        String spare = "P10-00";
        port(shipOf("S001" + open + spare.repeat(3)), 99, 1, 10);
        port(shipOf("S001" + open.repeat(2) + spare.repeat(3)), 99, 2, 20, 31);
        port(shipOf("S001" + open.repeat(3) + spare.repeat(3)), 99, NONE);
        port(shipOf("S099" + open.repeat(3) + spare.repeat(3)), 6, 0);
        port(shipOf("S099" + open.repeat(3) + spare.repeat(3)), 9, 1, 30);
        port(shipOf("S099" + open.repeat(3) + spare.repeat(3)), 10, 2, 30, 41);
        port(shipOf("S099" + open.repeat(3) + spare.repeat(3)), 19, 2, 30, 41);
        port(shipOf("S099" + open.repeat(3) + spare.repeat(3)), 20, NONE);
    }

    private static void portFirst() {
        port(shipOf("S001O15-P10-00P10-00"), 99, 1, 10);
        port(shipOf("S001P10-00O15-O10-"), 99, 1, 1);
        // 1 would be eaten in PLACE 0: 2 is the first one by which she floats so long.
        port(shipOf("S005O15-P10-09P10-00"), 2, 1, 10);
        port(shipOf("S004O15-P10-09P10-00"), 2, 1, 20);
        port(shipOf("S005O15-P10-09P10-00"), 3, 1, 20);
        // The least LEAK is not asked for: the first row that is good enough.
        port(shipOf("S020O19-P15-00P10-00"), 3, 1, 10);
        port(shipOf("S020O19-P15-00P10-00"), 5, 1, 20);
    }

    private static void portAtOutOfRow() {
        ShipFromItself x = shipOf("S020O19-O19-P10-00P10-00");
        due("port(3)", x.port(3), 2);
        due("portAt(3, 0)", x.portAt(3, 0), 20);
        due("portAt(3, 1)", x.portAt(3, 1), 31);
        due("portAt(2, 0)", x.portAt(2, 0), 20);
        due("portAt(2, 1)", x.portAt(2, 1), NONE);
        due("portAt(1, 0)", x.portAt(1, 0), NONE);
        for (int i : new int[] {2, 3, -1, 24, Integer.MIN_VALUE, Integer.MAX_VALUE}) {
            for (int n = 1; n <= 3; n++) {
                due("portAt(" + n + ", " + i + ")", x.portAt(n, i), NONE);
            }
        }
        // NONE where no row is good enough, too.
        ShipFromItself y = shipOf("S001O19-");
        for (int i : new int[] {0, 1, -1}) {
            due("portAt(1, " + i + ")", y.portAt(1, i), NONE);
        }
    }

    private static void portOfNothing() {
        for (int n : new int[] {1, 2, 98, 99}) {
            port(new ShipFromItself(), n, 0);
            port(shipOf("S001"), n, 0);
            port(shipOf("S001" + "P19-00".repeat(10)), n, 0);
            port(shipOf("S001" + "O19-".repeat(10)), n, NONE);
        }
    }

    private static void portOfSunk() {
        ShipFromItself x = shipOf("S008O19-P10-00");
        x.watch();
        for (int n : new int[] {1, 50, 99}) {
            due("port(" + n + ")", x.port(n), STATE);
            due("portAt(" + n + ", 0)", x.portAt(n, 0), STATE);
        }
        due("port(0)", x.port(0), OUTSIDE);
        due("port(100)", x.port(100), OUTSIDE);
        x.back();
        port(x, 1, 1, 10);
    }
}
