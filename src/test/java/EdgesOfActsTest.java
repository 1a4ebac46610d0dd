/** ACTS, and what is taken back (promises 8 to 12): the boundaries, each by the sentence that names it. */
public final class EdgesOfActsTest {
    private static final int UNKNOWN = ShipFromItself.UNKNOWN;
    private static final int STATE = ShipFromItself.STATE;
    private static final int NONE = ShipFromItself.NONE;
    private static final int LAID = 100;
    private static final int LOST = 200;

    public static void main(String[] args) {
        Check.sentence("TAKEN, if no TIMBER is in a PLACE that RESTS on that", EdgesOfActsTest::takenFromUnder);
        Check.sentence("take: UNKNOWN from the number of PLACES on", EdgesOfActsTest::takeLast);
        Check.sentence("take: TAKEN out of a PLACE: the TIMBER (it is LAID)", EdgesOfActsTest::takeTells);
        Check.sentence("PUT, if it is as long as that or longer; it is cut", EdgesOfActsTest::putLongEnough);
        Check.sentence("PUT: that RESTS on none, or on one in which there is a TIMBER",
            EdgesOfActsTest::putOnWhatBears);
        Check.sentence("A LAID one may be PUT into an OPEN PLACE", EdgesOfActsTest::putLaidIntoOpen);
        Check.sentence("put: UNKNOWN: timber, place", EdgesOfActsTest::putLast);
        Check.sentence("A MOVE: TAKEN, if it is in a PLACE, and PUT into another one", EdgesOfActsTest::moveToAnother);
        Check.sentence("A MOVE: a PLACE that it was TAKEN from is OPEN then", EdgesOfActsTest::moveLeavesOpen);
        Check.sentence("A MOVE: all as told", EdgesOfActsTest::moveAsTold);
        Check.sentence("A MOVE of one that is LAID", EdgesOfActsTest::moveOfLaid);
        Check.sentence("WATER is more by LEAK, less by PUMPS (0 at least)", EdgesOfActsTest::waterAtLeastNone);
        Check.sentence("WATER: what more comes than PUMPS throw out", EdgesOfActsTest::waterByLeak);
        Check.sentence("if it is more than THE HOLD bears, she is SUNK", EdgesOfActsTest::holdBears);
        Check.sentence("she is SUNK, and that is all", EdgesOfActsTest::sunkAndThatIsAll);
        Check.sentence("Each TIMBER in a PLACE that has WORMS (1 or more) has 1 more", EdgesOfActsTest::wormsMore);
        Check.sentence("those that have 10 are LOST", EdgesOfActsTest::wormsTen);
        Check.sentence("WORMS of a LAID one wait", EdgesOfActsTest::wormsOfLaid);
        Check.sentence("what RESTS on an OPEN one comes down: it is LAID", EdgesOfActsTest::comesDown);
        Check.sentence("again and again, till there is none such", EdgesOfActsTest::againAndAgain);
        Check.sentence("LEAK of a WATCH is the one ahead of WORMS and of what comes down", EdgesOfActsTest::leakAhead);
        Check.sentence("A SUNK ship is not changed but by what is taken back", EdgesOfActsTest::sunkIsNotChanged);
        Check.sentence("ACTS, each by itself", EdgesOfActsTest::eachByItself);
        Check.sentence("all is as it was ahead of it", EdgesOfActsTest::asItWas);
        Check.sentence("a row of 24 at most; of more the first one is forgotten", EdgesOfActsTest::rowOf24);
        Check.sentence("the first one is forgotten, whatever ACTS they are", EdgesOfActsTest::rowOfMixedActs);
        Check.sentence("the row goes on from where it was taken back to", EdgesOfActsTest::rowGoesOn);
        Check.sentence("back: STATE: there is none", EdgesOfActsTest::backWithout);
        Check.end();
    }

    private static void due(String call, long got, long want) {
        Check.due(call, got, want);
    }

    private static ShipFromItself shipOf(String text) {
        return Check.shipOf(text);
    }

    private static void takenFromUnder() {
        due("nothing rests on it", shipOf("S099P11-00P11-00").take(0), 0);
        due("one rests on it", shipOf("S099P11-00P11000").take(0), STATE);
        due("the one that rests on it", shipOf("S099P11-00P11000").take(1), 1);
        due("an OPEN one rests on it", shipOf("S099P11-00O110").take(0), 0);
        due("an OPEN one, and one behind it", shipOf("S099P11-00O110P11000").take(0), STATE);
        due("one, and an OPEN one behind it", shipOf("S099P11-00P11000O110").take(0), STATE);
        due("the last of ten", shipOf("S099P11-00" + "O110".repeat(8) + "P11000").take(0), STATE);
        due("ten, all OPEN but it", shipOf("S099P11-00" + "O110".repeat(9)).take(0), 0);
        due("one on another one", shipOf("S099P11-00P11-00P11100").take(0), 0);
        due("by way of an OPEN one", shipOf("S099P11-00O110P11100").take(0), 0);
        due("it rests on an OPEN one itself", shipOf("S099O11-P11000").take(1), 1);
        ShipFromItself x = shipOf("S099P11-00P11000P11000");
        due("take(1)", x.take(1), 1);
        due("take(0): 2 is there", x.take(0), STATE);
        due("take(2)", x.take(2), 2);
        due("take(0)", x.take(0), 0);
    }

    private static void takeLast() {
        for (int places = 0; places <= 10; places++) {
            ShipFromItself x = shipOf("S099" + "P11-00".repeat(places));
            due("take(" + places + ")", x.take(places), UNKNOWN);
            due("take(-1)", x.take(-1), UNKNOWN);
            due("count(9)", x.count(9), 0);
            if (places > 0) {
                due("take of the last", x.take(places - 1), places - 1);
                due("take of the last once more", x.take(places - 1), STATE);
                due("count(9)", x.count(9), 1);
            }
        }
    }

    private static void takeTells() {
        ShipFromItself x = shipOf("S099O31-P92-15");
        due("move(1, 0)", x.move(1, 0), 3);
        due("take(0): the TIMBER, not the PLACE", x.take(0), 1);
        due("timber(1, 0)", x.timber(1, 0), LAID);
        due("timber(1, 1)", x.timber(1, 1), 3);
        due("timber(1, 3)", x.timber(1, 3), 5);
        due("place(0, 3)", x.place(0, 3), NONE);
        due("leak()", x.leak(), 3);
        due("count(2)", x.count(2), 2);
        due("count(3)", x.count(3), 1);
        due("count(4)", x.count(4), 1);
    }

    private static void putLongEnough() {
        for (int timber = 1; timber <= 9; timber++) {
            for (int place = 1; place <= 9; place++) {
                ShipFromItself x = shipOf("S099O" + place + "1-P" + timber + "1-00");
                boolean fits = timber >= place;
                due("take(1)", x.take(1), 1);
                due("put " + timber + " into " + place, x.put(1, 0), fits ? place : STATE);
                due("length then", x.timber(1, 1), fits ? place : timber);
                due("place(0, 0) stays", x.place(0, 0), place);
                ShipFromItself y = shipOf("S099O" + place + "1-P" + timber + "1-00");
                due("may " + timber + " into " + place, y.may(1, 0), fits ? 1 : 0);
                due("move " + timber + " into " + place, y.move(1, 0), fits ? place : STATE);
                due("length then", y.timber(1, 1), fits ? place : timber);
            }
        }
        // What is cut stays short, wherever it goes.
        ShipFromItself x = shipOf("S099P51-00O41-O51-O41-");
        due("move(0, 1)", x.move(0, 1), 4);
        due("move(0, 2): too long by 1", x.move(0, 2), STATE);
        due("move(0, 0): its own first PLACE", x.move(0, 0), STATE);
        due("move(0, 3)", x.move(0, 3), 4);
    }

    private static void putOnWhatBears() {
        ShipFromItself none = shipOf("S099O11-P11-00");
        none.take(1);
        due("put: RESTS on none", none.put(1, 0), 1);
        ShipFromItself borne = shipOf("S099P11-00O110P11-00");
        borne.take(2);
        due("put: RESTS on one with a TIMBER", borne.put(2, 1), 1);
        ShipFromItself open = shipOf("S099O11-O110P11-00P11-00");
        open.take(2);
        due("put: RESTS on an OPEN one", open.put(2, 1), STATE);
        due("move: RESTS on an OPEN one", open.move(3, 1), STATE);
        due("move(3, 0)", open.move(3, 0), 1);
        due("put: then it bears", open.put(2, 1), 1);
        // What bears must not rest on firm ground itself: only it counts.
        ShipFromItself high = shipOf("S099O11-P11000O111P11-00");
        high.take(3);
        due("put: on one that rests on an OPEN one", high.put(3, 2), 1);
        ShipFromItself own = shipOf("S099P11-00O110");
        own.take(0);
        due("put: on the PLACE that it came from", own.put(0, 1), STATE);
    }

    private static void putLaidIntoOpen() {
        ShipFromItself x = shipOf("S099P11-09P11-00P11-00O11-O11-");
        due("put(1, 3): it is in a PLACE", x.put(1, 3), STATE);
        due("put(1, 1): it is in that PLACE", x.put(1, 1), STATE);
        due("put(3, 4): it never was", x.put(3, 4), STATE);
        x.watch();
        due("put(0, 3): it is LOST", x.put(0, 3), STATE);
        x.take(1);
        due("put(1, 2): it is not OPEN", x.put(1, 2), STATE);
        due("put(1, 1): where it was", x.put(1, 1), 1);
        due("put(1, 3): it is LAID no more", x.put(1, 3), STATE);
        due("count(9)", x.count(9), 3);
    }

    private static void putLast() {
        for (int places = 1; places <= 10; places++) {
            ShipFromItself x = shipOf("S099" + "P11-00".repeat(places));
            x.take(places - 1);
            due("put(n, 0)", x.put(places, 0), UNKNOWN);
            due("put(n - 1, n)", x.put(places - 1, places), UNKNOWN);
            due("put(-1, n - 1)", x.put(-1, places - 1), UNKNOWN);
            due("put(n - 1, -1)", x.put(places - 1, -1), UNKNOWN);
            due("move(n, 0)", x.move(places, 0), UNKNOWN);
            due("move(n - 1, n)", x.move(places - 1, places), UNKNOWN);
            due("move(-1, n - 1)", x.move(-1, places - 1), UNKNOWN);
            due("move(n - 1, -1)", x.move(places - 1, -1), UNKNOWN);
            due("may(n, 0)", x.may(places, 0), UNKNOWN);
            due("may(n - 1, n)", x.may(places - 1, places), UNKNOWN);
            due("may(-1, n - 1)", x.may(-1, places - 1), UNKNOWN);
            due("may(n - 1, -1)", x.may(places - 1, -1), UNKNOWN);
            due("may(n - 1, n - 1)", x.may(places - 1, places - 1), 1);
            due("put(n - 1, n - 1)", x.put(places - 1, places - 1), 1);
        }
        due("put(0, 0) without PLACES", shipOf("S099").put(0, 0), UNKNOWN);
        due("move(0, 0) without PLACES", shipOf("S099").move(0, 0), UNKNOWN);
    }

    private static void moveToAnother() {
        ShipFromItself x = shipOf("S099P11-00O11-P11-00");
        due("may(0, 0)", x.may(0, 0), 0);
        due("move(0, 0): not another one", x.move(0, 0), STATE);
        due("may(0, 2)", x.may(0, 2), 0);
        due("move(0, 2): not OPEN", x.move(0, 2), STATE);
        due("may(0, 1)", x.may(0, 1), 1);
        due("move(0, 1)", x.move(0, 1), 1);
        due("move(0, 1): there it is", x.move(0, 1), STATE);
        due("count(9)", x.count(9), 1);
    }

    private static void moveLeavesOpen() {
        // 1 rests on 0: the TIMBER of 0 cannot bear itself.
        ShipFromItself x = shipOf("S099P21-00O110O11-");
        due("may(0, 1)", x.may(0, 1), 0);
        due("move(0, 1)", x.move(0, 1), STATE);
        due("move(0, 2)", x.move(0, 2), 1);
        due("place(0, 3)", x.place(0, 3), NONE);
        due("leak()", x.leak(), 2);
        due("move(0, 1): 0 is OPEN", x.move(0, 1), STATE);
        due("move(0, 0): too short", x.move(0, 0), STATE);
        // The other way round it may: what it rests on becomes its PLACE.
        ShipFromItself down = shipOf("S099O11-P11000");
        due("may(1, 0)", down.may(1, 0), 1);
        due("move(1, 0)", down.move(1, 0), 1);
        due("move(1, 1): it would rest on what it left", down.move(1, 1), STATE);
    }

    private static void moveAsTold() {
        ShipFromItself x = shipOf("S099P31-00P31000O31-O41-O112O110P31-09");
        due("move(0, 2): 1 rests on it", x.move(0, 2), STATE);
        due("move(1, 3): too short", x.move(1, 3), STATE);
        due("move(1, 4): on an OPEN one", x.move(1, 4), STATE);
        due("move(4, 2): it never was", x.move(4, 2), STATE);
        due("move(1, 5): on 0", x.move(1, 5), 1);
        due("timber(1, 1)", x.timber(1, 1), 1);
        due("move(0, 2): 1 rests on it in its new PLACE", x.move(0, 2), STATE);
        due("count(9)", x.count(9), 1);
        x.watch();
        due("move(6, 2): it is LOST", x.move(6, 2), STATE);
        due("take(5)", x.take(5), 1);
        due("move(0, 2)", x.move(0, 2), 3);
    }

    private static void moveOfLaid() {
        ShipFromItself x = shipOf("S099P31-00O31-O41-O110");
        x.take(0);
        due("may(0, 0)", x.may(0, 0), 1);
        due("may(0, 2): too short", x.may(0, 2), 0);
        due("may(0, 3): on an OPEN one", x.may(0, 3), 0);
        due("move(0, 2)", x.move(0, 2), STATE);
        due("move(0, 3)", x.move(0, 3), STATE);
        due("move(0, 0): where it was", x.move(0, 0), 3);
        due("count(3)", x.count(3), 0);
        due("count(9): take, move", x.count(9), 2);
        due("back()", x.back(), 1);
        due("timber(0, 0)", x.timber(0, 0), LAID);
    }

    private static void waterAtLeastNone() {
        due("LEAK less than PUMPS", shipOf("S901O18-").watch(), 0);
        due("LEAK as PUMPS", shipOf("S901O19-").watch(), 0);
        due("LEAK none, PUMPS none", shipOf("S001O10-").watch(), 0);
        due("LEAK none, PUMPS 9", shipOf("S901").watch(), 0);
        due("LEAK 1 more than PUMPS", shipOf("S801O19-").watch(), 1);
        // 7 in two WATCHES, then 3 less a WATCH: 4, 1, 0, 0.
        ShipFromItself x = shipOf("S399P15-00O13-");
        x.take(0);
        due("watch()", x.watch(), 5);
        due("watch()", x.watch(), 10);
        x.put(0, 0);
        x.move(0, 1);
        due("watch(): 5 more, 3 less", x.watch(), 12);
        ShipFromItself y = shipOf("S399P15-00O10-");
        y.take(0);
        int[] in = {2, 4, 6, 8};
        for (int water : in) {
            due("watch()", y.watch(), water);
        }
        y.put(0, 0);
        int[] out = {5, 2, 0, 0};
        for (int water : out) {
            due("watch()", y.watch(), water);
            due("count(5)", y.count(5), water);
        }
        ShipFromItself just = shipOf("S399P16-00");
        just.take(0);
        due("watch()", just.watch(), 3);
        just.put(0, 0);
        due("watch(): just none", just.watch(), 0);
        due("watch()", just.watch(), 0);
    }

    private static void waterByLeak() {
        due("LEAK 90, the most there is", shipOf("S090" + "O19-".repeat(10)).watch(), 90);
        due("and PUMPS 9", shipOf("S990" + "O19-".repeat(10)).watch(), 81);
        ShipFromItself x = shipOf("S099O11-O12-P14-00");
        due("watch()", x.watch(), 3);
        due("watch()", x.watch(), 6);
        x.take(2);
        due("watch()", x.watch(), 13);
    }

    private static void holdBears() {
        for (int hold = 1; hold <= 99; hold++) {
            ShipFromItself x = shipOf("S0" + hold / 10 + hold % 10 + "O11-");
            for (int water = 1; water <= hold; water++) {
                due("watch() of " + hold, x.watch(), water);
                due("count(6)", x.count(6), 0);
            }
            due("watch(): 1 more than " + hold, x.watch(), hold + 1);
            due("count(6)", x.count(6), 1);
            due("count(5)", x.count(5), hold + 1);
            due("watch()", x.watch(), STATE);
        }
        ShipFromItself most = shipOf("S099" + "O19-".repeat(10));
        due("watch()", most.watch(), 90);
        due("watch()", most.watch(), 180);
        due("count(6)", most.count(6), 1);
    }

    private static void sunkAndThatIsAll() {
        // She sinks in the WATCH in which 1 would be eaten and 3 would come down.
        ShipFromItself x = shipOf("S001O19-P19-09P19-01P19000");
        due("watch()", x.watch(), 9);
        due("count(6)", x.count(6), 1);
        due("timber(1, 0)", x.timber(1, 0), 1);
        due("timber(1, 3)", x.timber(1, 3), 9);
        due("timber(2, 3)", x.timber(2, 3), 1);
        due("timber(3, 0)", x.timber(3, 0), 3);
        due("leak()", x.leak(), 9);
        // One WATER less, and all of it is so.
        ShipFromItself y = shipOf("S009O19-P19-09P19-01P19000");
        due("watch()", y.watch(), 9);
        due("count(6)", y.count(6), 0);
        due("timber(1, 0)", y.timber(1, 0), LOST);
        due("timber(2, 3)", y.timber(2, 3), 2);
        due("timber(3, 0)", y.timber(3, 0), LAID);
        due("leak()", y.leak(), 27);
    }

    private static void wormsMore() {
        ShipFromItself x = shipOf("S999P11-00P11-01P11-02");
        for (int watch = 1; watch <= 7; watch++) {
            x.watch();
            due("none stay none", x.timber(0, 3), 0);
            due("of 1", x.timber(1, 3), 1 + watch);
            due("of 2", x.timber(2, 3), 2 + watch);
        }
        x.watch();
        due("timber(1, 3)", x.timber(1, 3), 9);
        due("timber(1, 0)", x.timber(1, 0), 1);
        due("timber(2, 3)", x.timber(2, 3), 10);
        due("timber(2, 0)", x.timber(2, 0), LOST);
        // In a PLACE that is not its own too.
        ShipFromItself y = shipOf("S999P11-03O11-");
        y.move(0, 1);
        y.watch();
        due("timber(0, 3)", y.timber(0, 3), 4);
    }

    private static void wormsTen() {
        for (int worms = 1; worms <= 9; worms++) {
            ShipFromItself x = shipOf("S999P51-0" + worms);
            for (int more = worms + 1; more <= 10; more++) {
                due("timber(0, 0)", x.timber(0, 0), 0);
                x.watch();
                due("timber(0, 3)", x.timber(0, 3), more);
            }
            due("timber(0, 0)", x.timber(0, 0), LOST);
            due("place(0, 3)", x.place(0, 3), NONE);
            due("count(4)", x.count(4), 1);
            due("timber(0, 1)", x.timber(0, 1), 5);
            x.watch();
            due("timber(0, 3): no more", x.timber(0, 3), 10);
        }
        ShipFromItself all = shipOf("S999" + "P10-09".repeat(10));
        all.watch();
        due("count(4): ten at once", all.count(4), 10);
        due("count(2)", all.count(2), 10);
    }

    private static void wormsOfLaid() {
        ShipFromItself x = shipOf("S999P11-08P11-09");
        x.take(0);
        x.take(1);
        for (int watch = 0; watch < 5; watch++) {
            x.watch();
        }
        due("timber(0, 3)", x.timber(0, 3), 8);
        due("timber(1, 3)", x.timber(1, 3), 9);
        due("timber(1, 0)", x.timber(1, 0), LAID);
        x.put(1, 0);
        x.put(0, 1);
        x.watch();
        due("timber(0, 3)", x.timber(0, 3), 9);
        due("timber(0, 0)", x.timber(0, 0), 1);
        due("timber(1, 3)", x.timber(1, 3), 10);
        due("timber(1, 0)", x.timber(1, 0), LOST);
    }

    private static void comesDown() {
        ShipFromItself x = shipOf("S999P11-09P11000P11-00P11200");
        x.watch();
        due("timber(0, 0)", x.timber(0, 0), LOST);
        due("timber(1, 0): it rested on 0", x.timber(1, 0), LAID);
        due("timber(1, 1): as long as it was", x.timber(1, 1), 1);
        due("timber(3, 0): it rests on 2", x.timber(3, 0), 3);
        due("place(1, 3)", x.place(1, 3), NONE);
        // A TIMBER by its PLACE, not by its number.
        ShipFromItself y = shipOf("S999P11-00P11-09O111P11-00");
        due("move(0, 2)", y.move(0, 2), 1);
        due("move(3, 0)", y.move(3, 0), 1);
        y.watch();
        due("timber(0, 0): it rested on 1", y.timber(0, 0), LAID);
        due("timber(3, 0)", y.timber(3, 0), 0);
        // An OPEN one that rests on an OPEN one changes nothing; one that rests on none stays.
        ShipFromItself z = shipOf("S999O11-O110P11-00");
        z.watch();
        due("timber(2, 0)", z.timber(2, 0), 2);
        due("count(3)", z.count(3), 0);
    }

    private static void againAndAgain() {
        String text = "S999P10-09";
        for (int place = 1; place < 10; place++) {
            text += "P10" + (place - 1) + "00";
        }
        ShipFromItself x = shipOf(text);
        due("watch()", x.watch(), 0);
        due("count(3)", x.count(3), 9);
        due("count(4)", x.count(4), 1);
        due("count(2)", x.count(2), 10);
        ShipFromItself two = shipOf("S999P10-08P10009P10100P10000");
        two.watch();
        due("1 is LOST", two.timber(1, 0), LOST);
        due("2 rested on it", two.timber(2, 0), LAID);
        due("3 rests on 0", two.timber(3, 0), 3);
        two.watch();
        due("3 comes down in the next one", two.timber(3, 0), LAID);
        due("0 is LOST", two.timber(0, 0), LOST);
    }

    private static void leakAhead() {
        ShipFromItself x = shipOf("S099P15-09P16000");
        due("watch(): closed till then", x.watch(), 0);
        due("leak()", x.leak(), 11);
        due("watch()", x.watch(), 11);
    }

    private static void sunkIsNotChanged() {
        ShipFromItself x = shipOf("S001O19-P11-00P11-00");
        x.take(1);
        x.keep(0);
        due("watch()", x.watch(), 10);
        due("take(2)", x.take(2), STATE);
        due("put(1, 1)", x.put(1, 1), STATE);
        due("move(2, 0)", x.move(2, 0), STATE);
        due("move(1, 0)", x.move(1, 0), STATE);
        due("watch()", x.watch(), STATE);
        due("may(2, 0)", x.may(2, 0), 0);
        due("floats()", x.floats(), 0);
        due("WATER", x.count(5), 10);
        due("ACTS", x.count(9), 2);
        due("back(): the WATCH", x.back(), 1);
        due("SUNK", x.count(6), 0);
        due("WATER", x.count(5), 0);
        due("move(1, 0)", x.move(1, 0), 1);
        due("watch(): 1 still lets in 1", x.watch(), 1);
        due("SUNK", x.count(6), 0);
        due("watch()", x.watch(), 2);
        due("SUNK", x.count(6), 1);
        due("back()", x.back(), 3);
        due("back()", x.back(), 2);
        due("back()", x.back(), 1);
        due("back()", x.back(), 0);
        due("timber(1, 0)", x.timber(1, 0), 1);
    }

    private static void eachByItself() {
        ShipFromItself x = shipOf("S999P11-00O11-");
        due("take", x.take(0), 0);
        due("ACTS", x.count(9), 1);
        due("put", x.put(0, 0), 1);
        due("ACTS", x.count(9), 2);
        due("move", x.move(0, 1), 1);
        due("ACTS: a MOVE is one", x.count(9), 3);
        due("watch", x.watch(), 0);
        due("ACTS: a WATCH that changes nothing too", x.count(9), 4);
        due("keep: none", x.keep(0), 0);
        due("ACTS", x.count(9), 4);
        x.wipe();
        x.write(1, 'S');
        due("ACTS: THE TEXT is none", x.count(9), 4);
        for (int left = 3; left >= 0; left--) {
            due("back()", x.back(), left);
            due("ACTS", x.count(9), left);
        }
        due("bytes: not taken back", x.count(0), 1);
        due("again: not taken back", x.again(0), 0);
    }

    private static void asItWas() {
        String text = "S020P95-08P35009O34-O22-";
        ShipFromItself x = shipOf(text);
        due("move(1, 2)", x.move(1, 2), 3);
        due("move(1, 3): cut", x.move(1, 3), 2);
        due("watch(): 1 is eaten", x.watch(), 9);
        due("watch(): 0 is eaten", x.watch(), 20);
        due("SUNK", x.count(6), 0);
        due("timber(0, 0)", x.timber(0, 0), LOST);
        due("watch(): SUNK", x.watch(), 36);
        due("back()", x.back(), 4);
        due("SUNK", x.count(6), 0);
        due("WATER", x.count(5), 20);
        due("back()", x.back(), 3);
        due("timber(0, 0)", x.timber(0, 0), 0);
        due("timber(0, 3)", x.timber(0, 3), 9);
        due("back()", x.back(), 2);
        due("timber(1, 0)", x.timber(1, 0), 3);
        due("timber(1, 3)", x.timber(1, 3), 9);
        due("WATER", x.count(5), 0);
        due("back()", x.back(), 1);
        due("timber(1, 1): uncut", x.timber(1, 1), 3);
        due("back()", x.back(), 0);
        Told.same("all ACTS taken back", x, shipOf(text));
    }

    private static void rowOf24() {
        for (int acts : new int[] {1, 23, 24, 25, 26, 47, 48, 49, 72, 99}) {
            ShipFromItself x = shipOf("S099O11-");
            for (int act = 1; act <= acts; act++) {
                due("watch()", x.watch(), act);
                due("ACTS", x.count(9), Math.min(act, 24));
            }
            int kept = Math.min(acts, 24);
            for (int left = kept - 1; left >= 0; left--) {
                due("back() of " + acts, x.back(), left);
                due("WATER", x.count(5), acts - kept + left);
            }
            due("back(): the ones ahead are forgotten", x.back(), STATE);
            due("WATER", x.count(5), acts - kept);
        }
    }

    private static void rowOfMixedActs() {
        // take, put, move there, watch, move back, watch: 6 ACTS a round, 5 rounds.
        ShipFromItself x = shipOf("S099P11-00O12-");
        int[] water = new int[31];
        int[] where = new int[31];
        for (int act = 0; act < 30; act++) {
            water[act] = x.count(5);
            where[act] = x.timber(0, 0);
            switch (act % 6) {
                case 0: x.take(0); break;
                case 1: x.put(0, 0); break;
                case 2: x.move(0, 1); break;
                case 4: x.move(0, 0); break;
                default: x.watch();
            }
        }
        due("WATER", x.count(5), 5 * 3);
        for (int left = 23; left >= 0; left--) {
            due("back()", x.back(), left);
            due("WATER", x.count(5), water[left + 6]);
            due("timber(0, 0)", x.timber(0, 0), where[left + 6]);
        }
        due("back()", x.back(), STATE);
        due("WATER: the first round's", x.count(5), 3);
    }

    private static void rowGoesOn() {
        ShipFromItself x = shipOf("S099O11-");
        for (int act = 0; act < 30; act++) {
            x.watch();
        }
        for (int left = 23; left >= 14; left--) {
            due("back()", x.back(), left);
        }
        due("WATER", x.count(5), 20);
        for (int act = 15; act <= 30; act++) {
            due("watch()", x.watch(), act + 6);
            due("ACTS", x.count(9), Math.min(act, 24));
        }
        for (int left = 23; left >= 0; left--) {
            due("back()", x.back(), left);
            due("WATER", x.count(5), left + 12);
        }
        due("back()", x.back(), STATE);
    }

    private static void backWithout() {
        due("at first", new ShipFromItself().back(), STATE);
        ShipFromItself x = shipOf("S099O11-P11-00");
        due("of a new SHIP", x.back(), STATE);
        x.take(0);
        x.put(0, 0);
        x.move(0, 0);
        due("behind what was refused", x.back(), STATE);
        x.watch();
        due("the only one", x.back(), 0);
        due("none then", x.back(), STATE);
        x.watch();
        x.keep(0);
        x.again(0);
        due("behind what was kept", x.back(), STATE);
        due("WATER", x.count(5), 1);
    }
}
