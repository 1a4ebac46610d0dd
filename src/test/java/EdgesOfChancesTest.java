import java.math.BigInteger;

/** Storm, shares, the log, slots, counts (promises 21 to 26): the boundaries, each by the sentence that names it. */
public final class EdgesOfChancesTest {
    private static final int UNKNOWN = ShipFromItself.UNKNOWN;
    private static final int OUTSIDE = ShipFromItself.OUTSIDE;
    private static final int STATE = ShipFromItself.STATE;
    private static final int NONE = ShipFromItself.NONE;
    private static final int LAID = 100;
    private static final int LOST = 200;

    public static void main(String[] args) {
        Check.sentence("STORM by x tenths (0 to 10)", EdgesOfChancesTest::stormTenths);
        Check.sentence("STORM: the chance that LEAK is y (0 to 99) or less then", EdgesOfChancesTest::stormLeak);
        Check.sentence("STORM: each alike, by x tenths", EdgesOfChancesTest::stormEachAlike);
        Check.sentence("STORM: nothing comes down", EdgesOfChancesTest::stormNothingComesDown);
        Check.sentence("STORM without TIMBERS in PLACES", EdgesOfChancesTest::stormWithoutTimbers);
        Check.sentence("STORM of a SUNK ship", EdgesOfChancesTest::stormOfSunk);
        Check.sentence("FRACTIONS: above, below (1 and more), in least terms", EdgesOfChancesTest::leastTerms);
        Check.sentence("refusals of FRACTIONS are told likewise", EdgesOfChancesTest::refusedFractions);
        Check.sentence("SHARE of a SHIP (0 to 2)", EdgesOfChancesTest::shareOfEach);
        Check.sentence("SHARE: how long its TIMBERS in PLACES are", EdgesOfChancesTest::shareInPlaces);
        Check.sentence("SHARE: 0 by 1, if there are none", EdgesOfChancesTest::shareOfNone);
        Check.sentence("THE LOG: rows of k MOVES (0 to 3)", EdgesOfChancesTest::logOfK);
        Check.sentence("THE LOG: just some PLACES (bits) are OPEN then", EdgesOfChancesTest::logJustThese);
        Check.sentence("log: OUTSIDE: places (bits of PLACES)", EdgesOfChancesTest::logBits);
        Check.sentence("THE LOG: how many rows, the most there are", EdgesOfChancesTest::logMost);
        Check.sentence("THE LOG: from now on, each MOVE as told", EdgesOfChancesTest::logAsTold);
        Check.sentence("log: STATE: she is SUNK, till it is taken back", EdgesOfChancesTest::logOfSunk);
        Check.sentence("SLOTS 0 to 1", EdgesOfChancesTest::slots);
        Check.sentence("SLOTS keep TIMBERS, WATER, whether she is SUNK", EdgesOfChancesTest::slotsKeep);
        Check.sentence("THE ROW of ACTS is empty when she goes on from one", EdgesOfChancesTest::rowIsEmpty);
        Check.sentence("again: STATE: none were kept", EdgesOfChancesTest::noneKept);
        Check.sentence("kept anew; gone on from again and again", EdgesOfChancesTest::keptAnew);
        Check.sentence("kept without PLACES", EdgesOfChancesTest::keptWithoutPlaces);
        Check.sentence("count: each number, at its least", EdgesOfChancesTest::countLeast);
        Check.sentence("count: each number, at its most", EdgesOfChancesTest::countMost);
        Check.sentence("count: OUTSIDE", EdgesOfChancesTest::countOutside);
        Check.sentence("An object is used for at most 512 calls", EdgesOfChancesTest::calls512);
        Check.end();
    }

    private static void due(String call, long got, long want) {
        Check.due(call, got, want);
    }

    private static ShipFromItself shipOf(String text) {
        return Check.shipOf(text);
    }

    private static void storm(ShipFromItself x, int tenths, int y, long above, long below) {
        due("storm(" + tenths + ", " + y + ", true)", x.storm(tenths, y, true), above);
        due("storm(" + tenths + ", " + y + ", false)", x.storm(tenths, y, false), below);
    }

    private static void stormTenths() {
        ShipFromItself x = shipOf("S099P15-00");
        storm(x, 0, 0, 1, 1);
        storm(x, 1, 0, 9, 10);
        storm(x, 2, 0, 4, 5);
        storm(x, 5, 0, 1, 2);
        storm(x, 9, 0, 1, 10);
        storm(x, 10, 0, 0, 1);
        for (int tenths = 0; tenths <= 10; tenths++) {
            storm(x, tenths, 5, 1, 1);
            storm(x, tenths, 99, 1, 1);
        }
        for (int tenths : new int[] {-1, 11, Integer.MIN_VALUE, Integer.MAX_VALUE}) {
            storm(x, tenths, 0, OUTSIDE, OUTSIDE);
        }
    }

    private static void stormLeak() {
        ShipFromItself x = shipOf("S099O13-P12-00");
        storm(x, 5, 2, 0, 1);
        storm(x, 5, 3, 1, 2);
        storm(x, 5, 4, 1, 2);
        storm(x, 5, 5, 1, 1);
        storm(x, 5, 0, 0, 1);
        storm(x, 5, 99, 1, 1);
        storm(x, 5, -1, OUTSIDE, OUTSIDE);
        storm(x, 5, 100, OUTSIDE, OUTSIDE);
        ShipFromItself most = shipOf("S099" + "P19-00".repeat(10));
        storm(most, 10, 89, 0, 1);
        storm(most, 10, 90, 1, 1);
        storm(most, 10, 99, 1, 1);
        ShipFromItself none = shipOf("S099" + "P10-00".repeat(10));
        storm(none, 10, 0, 1, 1);
        storm(none, 3, 0, 1, 1);
    }

    private static long ways(int timbers, int torn) {
        long ways = 1;
        for (int i = 0; i < torn; i++) {
            ways = ways * (timbers - i) / (i + 1);
        }
        return ways;
    }

    private static long power(long base, int times) {
        long power = 1;
        for (int i = 0; i < times; i++) {
            power *= base;
        }
        return power;
    }

    private static void stormEachAlike() {
        for (int timbers = 1; timbers <= 10; timbers++) {
            ShipFromItself x = shipOf("S099" + "P11-00".repeat(timbers));
            for (int tenths = 1; tenths <= 9; tenths += 2) {
                long above = 0;
                for (int torn = 0; torn <= timbers; torn++) {
                    above += ways(timbers, torn) * power(tenths, torn) * power(10 - tenths, timbers - torn);
                    long below = power(10, timbers);
                    long divisor = BigInteger.valueOf(above).gcd(BigInteger.valueOf(below)).longValue();
                    storm(x, tenths, torn, above / divisor, below / divisor);
                }
            }
        }
        // By its PLACE, wherever it came from.
        ShipFromItself moved = shipOf("S099P11-00O15-");
        moved.move(0, 1);
        storm(moved, 3, 1, 7, 10);
        storm(moved, 3, 5, 7, 10);
        storm(moved, 3, 6, 1, 1);
    }

    private static void stormNothingComesDown() {
        storm(shipOf("S099P11-00P12000"), 5, 1, 1, 2);
        storm(shipOf("S099P11-00P12000"), 5, 2, 3, 4);
        storm(shipOf("S099P10-00P12000"), 1, 1, 9, 10);
        storm(shipOf("S099O11-P12000"), 5, 1, 1, 2);
    }

    private static void stormWithoutTimbers() {
        storm(new ShipFromItself(), 10, 0, 1, 1);
        storm(shipOf("S099"), 5, 99, 1, 1);
        ShipFromItself x = shipOf("S099" + "O19-".repeat(10));
        storm(x, 5, 89, 0, 1);
        storm(x, 5, 90, 1, 1);
        storm(x, 0, 0, 0, 1);
        ShipFromItself laid = shipOf("S099P13-00");
        laid.take(0);
        storm(laid, 5, 2, 0, 1);
        storm(laid, 5, 3, 1, 1);
    }

    private static void stormOfSunk() {
        ShipFromItself x = shipOf("S001O12-P13-00");
        x.watch();
        due("SUNK", x.count(6), 1);
        storm(x, 5, 2, 1, 2);
        storm(x, 5, 5, 1, 1);
        storm(x, 11, 5, OUTSIDE, OUTSIDE);
    }

    private static void leastTerms() {
        ShipFromItself ten = shipOf("S099" + "P11-00".repeat(10));
        // 1 by 10,000,000,000: more than an int holds, below.
        storm(ten, 9, 0, 1, 10000000000L);
        storm(ten, 1, 9, 9999999999L, 10000000000L);
        storm(ten, 5, 0, 1, 1024);
        storm(ten, 2, 0, 1048576, 9765625);
        storm(ten, 5, 9, 1023, 1024);
        due("share(0) above", ten.share(0, true), 1);
        due("share(0) below", ten.share(0, false), 1);
        due("share(1) above: none", ten.share(1, true), 0);
        due("share(1) below: not 10", ten.share(1, false), 1);
        storm(ten, 10, 9, 0, 1);
        ShipFromItself x = shipOf("S099P61-00P31-10");
        due("share(0) above", x.share(0, true), 2);
        due("share(0) below", x.share(0, false), 3);
        due("share(1) above", x.share(1, true), 1);
        due("share(1) below", x.share(1, false), 3);
    }

    private static void refusedFractions() {
        ShipFromItself x = shipOf("S099P61-00");
        for (boolean upper : new boolean[] {true, false}) {
            due("storm(11, 0, " + upper + ")", x.storm(11, 0, upper), OUTSIDE);
            due("storm(0, 100, " + upper + ")", x.storm(0, 100, upper), OUTSIDE);
            due("storm(-1, -1, " + upper + ")", x.storm(-1, -1, upper), OUTSIDE);
            due("share(3, " + upper + ")", x.share(3, upper), UNKNOWN);
            due("share(-1, " + upper + ")", x.share(-1, upper), UNKNOWN);
        }
    }

    private static void share(ShipFromItself x, int ship, long above, long below) {
        due("share(" + ship + ", true)", x.share(ship, true), above);
        due("share(" + ship + ", false)", x.share(ship, false), below);
    }

    private static void shareOfEach() {
        ShipFromItself x = shipOf("S099P11-00P21-10P41-20");
        share(x, 0, 1, 7);
        share(x, 1, 2, 7);
        share(x, 2, 4, 7);
        for (int ship : new int[] {-1, 3, 10, Integer.MIN_VALUE, Integer.MAX_VALUE}) {
            share(x, ship, UNKNOWN, UNKNOWN);
        }
        share(shipOf("S099" + "P91-20".repeat(10)), 2, 1, 1);
        share(shipOf("S099" + "P91-20".repeat(9) + "P11-00"), 0, 1, 82);
    }

    private static void shareInPlaces() {
        ShipFromItself x = shipOf("S099P91-00P21-19P41-20O11-");
        share(x, 0, 3, 5);
        share(x, 1, 2, 15);
        x.move(0, 3);
        share(x, 0, 1, 7);
        x.watch();
        due("timber(1, 0): LOST", x.timber(1, 0), LOST);
        share(x, 0, 1, 5);
        share(x, 1, 0, 1);
        share(x, 2, 4, 5);
        x.take(2);
        due("timber(2, 0): LAID", x.timber(2, 0), LAID);
        share(x, 0, 1, 1);
        share(x, 2, 0, 1);
    }

    private static void shareOfNone() {
        for (int ship = 0; ship < 3; ship++) {
            share(new ShipFromItself(), ship, 0, 1);
            share(shipOf("S099" + "O91-".repeat(10)), ship, 0, 1);
            ShipFromItself x = shipOf("S099P91-" + ship + "0");
            share(x, ship, 1, 1);
            x.take(0);
            share(x, ship, 0, 1);
            ShipFromItself eaten = shipOf("S099P91-" + ship + "9");
            eaten.watch();
            share(eaten, ship, 0, 1);
        }
    }

    private static void logOfK() {
        // One TIMBER, three PLACES: each MOVE goes to one of the two others.
        ShipFromItself x = shipOf("S099P11-00O11-O11-");
        due("log(0, 6)", x.log(0, 6), 1);
        due("log(1, 6)", x.log(1, 6), 0);
        due("log(1, 5)", x.log(1, 5), 1);
        due("log(1, 3)", x.log(1, 3), 1);
        due("log(2, 6)", x.log(2, 6), 2);
        due("log(2, 5)", x.log(2, 5), 1);
        due("log(3, 6)", x.log(3, 6), 2);
        due("log(3, 5)", x.log(3, 5), 3);
        for (int k : new int[] {-1, 4, Integer.MIN_VALUE, Integer.MAX_VALUE}) {
            due("log(" + k + ", 6)", x.log(k, 6), OUTSIDE);
        }
        ShipFromItself none = shipOf("S099P11-00P11-00");
        due("log(0, 0)", none.log(0, 0), 1);
        for (int k = 1; k <= 3; k++) {
            due("log(" + k + ", 0): there is no MOVE", none.log(k, 0), 0);
            due("log(" + k + ", 3): there is no MOVE", none.log(k, 3), 0);
        }
    }

    private static void logJustThese() {
        ShipFromItself x = shipOf("S099O11-P11-00O11-");
        int[] none = {0, 1, 2, 3, 4, 6, 7};
        for (int places : none) {
            due("log(0, " + places + ")", x.log(0, places), 0);
        }
        due("log(0, 5)", x.log(0, 5), 1);
        due("log(0, 512)", shipOf("S099" + "P11-00".repeat(9) + "O11-").log(0, 512), 1);
        due("log(0, 1)", shipOf("S099O11-" + "P11-00".repeat(9)).log(0, 1), 1);
        due("log(0, 1023)", shipOf("S099" + "O11-".repeat(10)).log(0, 1023), 1);
        due("log(0, 0)", shipOf("S099" + "P11-00".repeat(10)).log(0, 0), 1);
        for (int k = 1; k <= 3; k++) {
            due("a MOVE leaves as many OPEN", x.log(k, 1) + x.log(k, 7), 0);
        }
        x.take(1);
        due("log(1, 7): LAID, one fewer", x.log(1, 7), 0);
        due("log(1, 6)", x.log(1, 6), 1);
    }

    private static void logBits() {
        for (int places = 0; places <= 10; places++) {
            ShipFromItself x = shipOf("S099" + "O11-".repeat(places));
            int all = (1 << places) - 1;
            for (int k = 0; k <= 3; k++) {
                due("log(" + k + ", " + all + ")", x.log(k, all), k == 0 ? 1 : 0);
                due("log(" + k + ", " + (all + 1) + ")", x.log(k, all + 1), OUTSIDE);
            }
            due("log(0, -1)", x.log(0, -1), OUTSIDE);
            due("log(0, max)", x.log(0, Integer.MAX_VALUE), OUTSIDE);
            due("log(0, min)", x.log(0, Integer.MIN_VALUE), OUTSIDE);
        }
    }

    private static void logMost() {
        ShipFromItself x = shipOf("S099" + "P11-00".repeat(10));
        for (int place = 9; place >= 0; place--) {
            due("take", x.take(place), place);
        }
        due("log(0, 1023)", x.log(0, 1023), 1);
        // Any of ten into 9.
        due("log(1, 511)", x.log(1, 511), 10);
        // Two of ten into 8 and 9, whichever is first.
        due("log(2, 255)", x.log(2, 255), 10 * 9 * 2);
        // One of ten, into any of the nine others first.
        due("log(2, 511)", x.log(2, 511), 10 * 9);
        due("log(3, 127)", x.log(3, 127), 10 * 9 * 8 * 6);
        due("log(3, 1023)", x.log(3, 1023), 0);
    }

    private static void logAsTold() {
        // 1 rests on 0: it goes to 2, then 0 to 3.
        ShipFromItself x = shipOf("S099P11-00P11000O11-O11-");
        due("log(1, 9): 0 bears 1", x.log(1, 9), 0);
        due("log(1, 10): 1 to 2", x.log(1, 10), 1);
        due("log(2, 3): 1 to 2 and 0 to 3, or the other way", x.log(2, 3), 2);
        // What is cut fits no more: 0 goes to 1, and not back.
        ShipFromItself cut = shipOf("S099P21-00O11-");
        due("log(1, 1)", cut.log(1, 1), 1);
        due("log(2, 2)", cut.log(2, 2), 0);
        // From now on: of one that was MOVED.
        cut.move(0, 1);
        due("log(0, 1)", cut.log(0, 1), 1);
        due("log(1, 2)", cut.log(1, 2), 0);
        due("ACTS", cut.count(9), 1);
    }

    private static void logOfSunk() {
        ShipFromItself x = shipOf("S001O19-P11-00");
        x.watch();
        for (int k = 0; k <= 3; k++) {
            due("log(" + k + ", 1)", x.log(k, 1), STATE);
            due("log(" + k + ", 4)", x.log(k, 4), OUTSIDE);
        }
        due("log(4, 1)", x.log(4, 1), OUTSIDE);
        x.back();
        due("log(0, 1)", x.log(0, 1), 1);
    }

    private static void slots() {
        ShipFromItself x = shipOf("S099O11-");
        for (int slot : new int[] {-1, 2, 3, Integer.MIN_VALUE, Integer.MAX_VALUE}) {
            due("keep(" + slot + ")", x.keep(slot), UNKNOWN);
            due("again(" + slot + ")", x.again(slot), UNKNOWN);
        }
        due("keep(0)", x.keep(0), 0);
        x.watch();
        due("keep(1)", x.keep(1), 1);
        x.watch();
        due("again(0)", x.again(0), 0);
        due("again(1)", x.again(1), 1);
        due("again(2)", x.again(2), UNKNOWN);
        due("again(0)", x.again(0), 0);
    }

    private static void slotsKeep() {
        ShipFromItself x = shipOf("S010P93-05O52-P91-00P93-09");
        due("move(0, 1)", x.move(0, 1), 5);
        due("take(2)", x.take(2), 2);
        due("watch(): 3 is eaten", x.watch(), 4);
        due("keep(0)", x.keep(0), 4);
        due("watch()", x.watch(), 11);
        due("SUNK", x.count(6), 1);
        due("keep(1)", x.keep(1), 11);
        due("again(0)", x.again(0), 4);
        due("SUNK no more", x.count(6), 0);
        int[][] timbers = {{1, 5, 6}, {LOST, 0, 0}, {LAID, 9, 0}, {LOST, 9, 10}};
        for (int timber = 0; timber < timbers.length; timber++) {
            due("where is " + timber, x.timber(timber, 0), timbers[timber][0]);
            due("how long is " + timber, x.timber(timber, 1), timbers[timber][1]);
            due("WORMS of " + timber, x.timber(timber, 3), timbers[timber][2]);
        }
        due("place(0, 3)", x.place(0, 3), NONE);
        due("place(1, 3)", x.place(1, 3), 0);
        due("put(2, 0)", x.put(2, 0), 9);
        due("again(1)", x.again(1), 11);
        due("SUNK", x.count(6), 1);
        due("watch()", x.watch(), STATE);
        due("back(): the row is empty", x.back(), STATE);
        due("again(0)", x.again(0), 4);
        due("timber(2, 0): the slot is as it was", x.timber(2, 0), LAID);
    }

    private static void rowIsEmpty() {
        ShipFromItself x = shipOf("S099O11-");
        for (int watch = 0; watch < 24; watch++) {
            x.watch();
        }
        due("keep(0)", x.keep(0), 24);
        due("ACTS: keep leaves them", x.count(9), 24);
        due("again(0)", x.again(0), 24);
        due("ACTS", x.count(9), 0);
        due("back()", x.back(), STATE);
        for (int act = 1; act <= 25; act++) {
            due("watch()", x.watch(), 24 + act);
            due("ACTS", x.count(9), Math.min(act, 24));
        }
        for (int left = 23; left >= 0; left--) {
            due("back()", x.back(), left);
        }
        due("WATER", x.count(5), 25);
        due("back()", x.back(), STATE);
    }

    private static void noneKept() {
        ShipFromItself x = new ShipFromItself();
        due("again(0) at first", x.again(0), STATE);
        due("again(1) at first", x.again(1), STATE);
        due("keep(0) without PLACES", x.keep(0), 0);
        due("again(1)", x.again(1), STATE);
        due("again(0)", x.again(0), 0);
        Check.write(x, "S099O11-");
        due("ship()", x.ship(), 1);
        due("again(0): gone", x.again(0), STATE);
        due("keep(1)", x.keep(1), 0);
        due("again(0)", x.again(0), STATE);
        x.write(1, 'X');
        due("ship()", x.ship(), STATE);
        due("again(1): a refused ship() leaves it", x.again(1), 0);
        x.wipe();
        due("again(1): wipe() leaves it", x.again(1), 0);
    }

    private static void keptAnew() {
        ShipFromItself x = shipOf("S099O11-");
        for (int water = 0; water < 9; water++) {
            due("keep(1)", x.keep(1), water);
            due("watch()", x.watch(), water + 1);
        }
        for (int times = 0; times < 3; times++) {
            due("again(1): the last one", x.again(1), 8);
            due("watch()", x.watch(), 9);
        }
        due("back()", x.back(), 0);
        due("keep(0) behind back()", x.keep(0), 8);
        due("watch()", x.watch(), 9);
        due("back()", x.back(), 0);
        due("again(0): back() leaves it", x.again(0), 8);
    }

    private static void keptWithoutPlaces() {
        ShipFromItself x = shipOf("S001");
        due("keep(0)", x.keep(0), 0);
        due("watch()", x.watch(), 0);
        due("again(0)", x.again(0), 0);
        due("ACTS", x.count(9), 0);
    }

    private static void countAll(String what, ShipFromItself x, int... counts) {
        for (int one = 0; one < counts.length; one++) {
            due(what + ": count(" + one + ")", x.count(one), counts[one]);
        }
    }

    private static void countLeast() {
        countAll("at first", new ShipFromItself(), 0, 0, 0, 0, 0, 0, 0, 0, 1, 0);
        countAll("S001", shipOf("S001"), 4, 0, 0, 0, 0, 0, 0, 0, 1, 0);
        countAll("S999", shipOf("S999"), 4, 0, 0, 0, 0, 0, 0, 9, 99, 0);
        countAll("one PLACE, filled", shipOf("S010P11-00"), 10, 1, 0, 0, 0, 0, 0, 0, 10, 0);
        countAll("one PLACE, OPEN", shipOf("S010O11-"), 8, 1, 1, 0, 1, 0, 0, 0, 10, 0);
    }

    private static void countMost() {
        countAll("ten OPEN", shipOf("S999" + "O11-".repeat(10)), 44, 10, 10, 0, 10, 0, 0, 9, 99, 0);
        ShipFromItself x = shipOf("S099" + "P19-00".repeat(10));
        for (int place = 0; place < 10; place++) {
            x.take(place);
        }
        countAll("ten LAID", x, 64, 10, 10, 10, 0, 0, 0, 0, 99, 10);
        x.watch();
        countAll("a WATCH", x, 64, 10, 10, 10, 0, 90, 0, 0, 99, 11);
        x.watch();
        countAll("SUNK", x, 64, 10, 10, 10, 0, 180, 1, 0, 99, 12);
        x.write(8, 0);
        due("count(0)", x.count(0), 72);
        ShipFromItself lost = shipOf("S999" + "P11-09".repeat(10));
        lost.watch();
        countAll("ten LOST", lost, 64, 10, 10, 0, 10, 0, 0, 9, 99, 1);
    }

    private static void countOutside() {
        for (int what : new int[] {-1, 10, 11, Integer.MIN_VALUE, Integer.MAX_VALUE}) {
            due("count(" + what + ") at first", new ShipFromItself().count(what), OUTSIDE);
            due("count(" + what + ")", shipOf("S999O11-").count(what), OUTSIDE);
        }
        due("count(0)", shipOf("S999O11-").count(0), 8);
        due("count(9)", shipOf("S999O11-").count(9), 0);
    }

    private static void calls512() {
        // One call writes, one makes THE SHIP: 510 are left, and the last of them is answered as the first.
        ShipFromItself x = new ShipFromItself();
        due("write", x.write(8, 0x533930314F31392DL), 8);
        due("ship", x.ship(), 1);
        for (int call = 2; call < 511; call++) {
            due("watch()", x.watch(), 0);
        }
        due("the 512th call", x.count(9), 24);
        ShipFromItself y = new ShipFromItself();
        for (int call = 0; call < 512; call += 8) {
            due("write(8, S..)", y.write(8, 0x533030314F31312DL), 8);
            due("fault()", y.fault(), NONE);
            due("ship()", y.ship(), 1);
            due("watch()", y.watch(), 1);
            due("keep(1)", y.keep(1), 1);
            due("watch()", y.watch(), 2);
            due("again(1)", y.again(1), 1);
            due("wipe()", y.wipe(), 8);
        }
    }
}
