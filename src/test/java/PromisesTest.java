/** Each promise by its number: ordinary calls, the edges that the document names, wrong calls. */
public final class PromisesTest {
    private static final int UNKNOWN = ShipFromItself.UNKNOWN;
    private static final int OUTSIDE = ShipFromItself.OUTSIDE;
    private static final int STATE = ShipFromItself.STATE;
    private static final int FULL = ShipFromItself.FULL;
    private static final int NONE = ShipFromItself.NONE;
    private static final int LAID = 100;
    private static final int LOST = 200;

    /** 0 P9 long bears 1 (P5) and 2 (P5); 3 is open on 0; 4 P6 rests on 1; 5 is open on 4; 6 is open on none. */
    private static final String TOWER = "S320P94-00P53011P55020O380P66100O424O51-";
    private static final String EMPTY_SHIP = "S001";

    public static void main(String[] args) {
        constants();
        newObject();
        write();
        wipe();
        faultInHead();
        faultInPlaces();
        ship();
        shipEmptiesAll();
        place();
        timber();
        take();
        put();
        move();
        watchAndWater();
        watchAndWorms();
        watchAndFall();
        back();
        backForgets();
        backForgetsMany();
        leak();
        floats();
        harm();
        may();
        best();
        bestFewestAndFirst();
        bestAtByItself();
        port();
        portFewestAndFirst();
        portAtByItself();
        storm();
        share();
        log();
        keepAndAgain();
        count();
        sunkIsNotChanged();
        refusedChangesNothing();
        Check.end();
    }

    private static void due(String call, long got, long want) {
        Check.due(call, got, want);
    }

    private static ShipFromItself shipOf(String text) {
        return Check.shipOf(text);
    }

    private static void constants() {
        due("UNKNOWN", UNKNOWN, -1);
        due("OUTSIDE", OUTSIDE, -2);
        due("STATE", STATE, -3);
        due("FULL", FULL, -4);
        due("NONE", NONE, -9);
    }

    // 1
    private static void newObject() {
        ShipFromItself x = new ShipFromItself();
        int[] counts = {0, 0, 0, 0, 0, 0, 0, 0, 1, 0};
        for (int what = 0; what < counts.length; what++) {
            due("new: count(" + what + ")", x.count(what), counts[what]);
        }
        due("new: place(0, 0)", x.place(0, 0), UNKNOWN);
        due("new: timber(0, 0)", x.timber(0, 0), UNKNOWN);
        due("new: fault()", x.fault(), 0);
        due("new: leak()", x.leak(), 0);
        due("new: floats()", x.floats(), 99);
        due("new: back()", x.back(), STATE);
        due("new: again(0)", x.again(0), STATE);
        due("new: best(2)", x.best(2), 0);
        due("new: port(99)", x.port(99), 0);
        due("new: log(0, 0)", x.log(0, 0), 1);
        due("new: log(3, 0)", x.log(3, 0), 0);
        due("new: storm(5, 0) above", x.storm(5, 0, true), 1);
        due("new: storm(5, 0) below", x.storm(5, 0, false), 1);
        due("new: share(2) above", x.share(2, true), 0);
        due("new: share(2) below", x.share(2, false), 1);
    }

    // 2
    private static void write() {
        ShipFromItself x = new ShipFromItself();
        due("write(0, 0)", x.write(0, 0), OUTSIDE);
        due("write(9, 0)", x.write(9, 0), OUTSIDE);
        due("write(-1, 0)", x.write(-1, 0), OUTSIDE);
        due("write(min, 0)", x.write(Integer.MIN_VALUE, 0), OUTSIDE);
        due("write(max, 0)", x.write(Integer.MAX_VALUE, 0), OUTSIDE);
        due("count(0)", x.count(0), 0);
        // Of eight bytes only the lowest four count, the highest of them first.
        due("write(4, ????S001)", x.write(4, 0x4F4F4F4F53303031L), 4);
        due("fault()", x.fault(), NONE);
        due("ship()", x.ship(), 0);
        for (int n = 8; n <= 64; n += 4) {
            due("write(4, O11-)", x.write(4, 0x4F31312DL), n);
        }
        due("write(8, O11-O11-)", x.write(8, 0x4F31312D4F31312DL), 72);
        due("write(1, 0): 73", x.write(1, 0), FULL);
        due("write(8, 0): 80", x.write(8, 0), FULL);
        due("write(9, 0): both", x.write(9, 0), OUTSIDE);
        due("count(0)", x.count(0), 72);
        x.wipe();
        for (int n = 7; n <= 70; n += 7) {
            due("write(7, 0)", x.write(7, 0), n);
        }
        due("write(3, 0): 73", x.write(3, 0), FULL);
        due("write(2, 0)", x.write(2, 0), 72);
        x.wipe();
        due("write(1, byte S behind others)", x.write(1, -256L | 'S'), 1);
        due("fault()", x.fault(), 1);
    }

    // 3
    private static void wipe() {
        ShipFromItself x = shipOf(TOWER);
        due("wipe()", x.wipe(), TOWER.length());
        due("count(0)", x.count(0), 0);
        due("fault()", x.fault(), 0);
        due("wipe()", x.wipe(), 0);
        due("THE SHIP stays", x.count(1), 7);
        due("ship()", x.ship(), STATE);
        due("THE SHIP stays", x.count(1), 7);
    }

    private static void fault(String text, int want) {
        ShipFromItself x = new ShipFromItself();
        Check.write(x, text);
        due("fault() of " + text, x.fault(), want);
        due("fault() again", x.fault(), want);
        due("ship() of " + text, x.ship() == STATE ? 1 : 0, want == NONE ? 0 : 1);
    }

    // 4
    private static void faultInHead() {
        fault("", 0);
        fault("s", 0);
        fault("P", 0);
        fault("S", 1);
        fault("S:", 1);
        fault("S/", 1);
        fault("S9", 2);
        fault("S99", 3);
        fault("S9a9", 2);
        fault("S0-1", 2);
        fault("S000", 3);
        fault("S001", NONE);
        fault("S010", NONE);
        fault("S999", NONE);
        fault("S00:", 3);
        fault("S000P", 3);
        fault("S0 1O11-", 2);
        fault("\u0000", 0);
        fault("\u00ff001", 0);
        fault("\u0153001".substring(1), 0);
    }

    private static void faultInPlaces() {
        fault("S001X", 4);
        fault("S001O", 5);
        fault("S001O0", 5);
        fault("S001O1", 6);
        fault("S001O10", 7);
        fault("S001O1x", 6);
        fault("S001O100", 7);
        fault("S001O10-", NONE);
        fault("S001O10-0", 8);
        fault("S001P10-", 8);
        fault("S001P10-3", 8);
        fault("S001P10-2", 9);
        fault("S001P10-2x", 9);
        fault("S001P10-29", NONE);
        fault("S001P10-29P110", 14);
        fault("S001P10-29P111", 13);
        fault("S001P10-29O110", NONE);
        fault("S001O10-P11000", NONE);
        fault("S001O10-O101O101", 11);
        String nine = "O10-".repeat(9);
        fault("S001" + nine, NONE);
        fault("S001" + nine + "O108", NONE);
        fault("S001" + nine + "O109", 43);
        fault("S001" + nine + "O108O", 44);
        fault("S001" + nine + "O108O109", 44);
        fault("S001" + "P99-00".repeat(10), NONE);
        fault("S001" + "P99-00".repeat(10) + "P", 64);
        fault("S001" + "P99-00".repeat(10) + "P99-00xx", 64);
    }

    // 5
    private static void ship() {
        ShipFromItself x = new ShipFromItself();
        due("ship()", x.ship(), STATE);
        Check.write(x, TOWER);
        due("ship()", x.ship(), 7);
        due("THE TEXT stays", x.count(0), TOWER.length());
        due("PUMPS", x.count(7), 3);
        due("THE HOLD", x.count(8), 20);
        due("WATER", x.count(5), 0);
        x.write(1, 'P');
        due("ship()", x.ship(), STATE);
        due("THE SHIP stays", x.count(1), 7);
        due("THE TEXT stays", x.count(0), TOWER.length() + 1);
        due("ship()", shipOf("S105" + "P11-00".repeat(10)).count(1), 10);
        due("ship()", shipOf(EMPTY_SHIP).count(1), 0);
    }

    private static void shipEmptiesAll() {
        ShipFromItself x = shipOf("S599P94-05O91-");
        due("move(0, 1)", x.move(0, 1), 9);
        due("watch()", x.watch(), 0);
        due("keep(0)", x.keep(0), 0);
        due("keep(1)", x.keep(1), 0);
        due("ship()", x.ship(), 2);
        due("back()", x.back(), STATE);
        due("again(0)", x.again(0), STATE);
        due("again(1)", x.again(1), STATE);
        due("timber(0, 0)", x.timber(0, 0), 0);
        due("timber(0, 3)", x.timber(0, 3), 5);
        due("count(9)", x.count(9), 0);
        ShipFromItself sunk = shipOf("S001O19-");
        due("watch()", sunk.watch(), 9);
        due("ship() of one SUNK", sunk.ship(), 1);
        due("count(5)", sunk.count(5), 0);
        due("count(6)", sunk.count(6), 0);
        sunk.wipe();
        Check.write(sunk, EMPTY_SHIP);
        due("ship() without PLACES", sunk.ship(), 0);
        due("place(0, 0)", sunk.place(0, 0), UNKNOWN);
        due("leak()", sunk.leak(), 0);
    }

    // 6
    private static void place() {
        ShipFromItself x = shipOf(TOWER);
        int[][] of = {
            {9, 4, NONE, 0}, {5, 3, 0, 1}, {5, 5, 0, 2}, {3, 8, 0, NONE}, {6, 6, 1, 4}, {4, 2, 4, NONE},
            {5, 1, NONE, NONE}};
        for (int place = 0; place < of.length; place++) {
            for (int what = 0; what < 4; what++) {
                due("place(" + place + ", " + what + ")", x.place(place, what), of[place][what]);
            }
        }
        due("place(7, 0)", x.place(7, 0), UNKNOWN);
        due("place(-1, 0)", x.place(-1, 0), UNKNOWN);
        due("place(max, 9)", x.place(Integer.MAX_VALUE, 9), UNKNOWN);
        due("place(0, 4)", x.place(0, 4), OUTSIDE);
        due("place(0, -1)", x.place(0, -1), OUTSIDE);
        due("move(4, 6)", x.move(4, 6), 5);
        due("place(6, 3)", x.place(6, 3), 4);
        due("place(4, 3)", x.place(4, 3), NONE);
        due("place(4, 0) stays", x.place(4, 0), 6);
    }

    // 7
    private static void timber() {
        ShipFromItself x = shipOf("S320P94-07O380P66021P11-29");
        int[][] of = {{0, 9, 0, 7}, {LOST, 0, NONE, 0}, {2, 6, 2, 1}, {3, 1, 2, 9}};
        for (int timber = 0; timber < of.length; timber++) {
            for (int what = 0; what < 4; what++) {
                due("timber(" + timber + ", " + what + ")", x.timber(timber, what), of[timber][what]);
            }
        }
        due("timber(4, 0)", x.timber(4, 0), UNKNOWN);
        due("timber(-1, 7)", x.timber(-1, 7), UNKNOWN);
        due("timber(1, 4)", x.timber(1, 4), OUTSIDE);
        due("timber(1, -1)", x.timber(1, -1), OUTSIDE);
        due("take(2)", x.take(2), 2);
        due("timber(2, 0)", x.timber(2, 0), LAID);
        due("put(2, 1)", x.put(2, 1), 3);
        due("timber(2, 0)", x.timber(2, 0), 1);
        due("timber(2, 1)", x.timber(2, 1), 3);
        due("timber(2, 2)", x.timber(2, 2), 2);
        due("timber(2, 3)", x.timber(2, 3), 1);
        x.watch();
        due("timber(3, 0) eaten", x.timber(3, 0), LOST);
        due("timber(3, 1) eaten", x.timber(3, 1), 1);
        due("timber(3, 2) eaten", x.timber(3, 2), 2);
        due("timber(3, 3) eaten", x.timber(3, 3), 10);
    }

    // 8
    private static void take() {
        ShipFromItself x = shipOf(TOWER);
        due("take(7)", x.take(7), UNKNOWN);
        due("take(-1)", x.take(-1), UNKNOWN);
        due("take(3): OPEN", x.take(3), STATE);
        due("take(0): bears 1", x.take(0), STATE);
        due("take(1): bears 4", x.take(1), STATE);
        due("take(4): bears an OPEN one", x.take(4), 4);
        due("take(4): OPEN then", x.take(4), STATE);
        due("take(1)", x.take(1), 1);
        due("take(0): bears 2", x.take(0), STATE);
        due("take(2)", x.take(2), 2);
        due("take(0)", x.take(0), 0);
        due("count(3)", x.count(3), 4);
        due("count(9)", x.count(9), 4);
        ShipFromItself moved = shipOf("S099P50-00O30-");
        moved.move(0, 1);
        due("take(1): the TIMBER 0", moved.take(1), 0);
        // 2 rests on the OPEN 1: it does not rest on 0 itself.
        due("take(0) under an OPEN one", shipOf("S099P50-00O300P30100").take(0), 0);
    }

    // 9
    private static void put() {
        ShipFromItself x = shipOf(TOWER);
        due("put(7, 0)", x.put(7, 0), UNKNOWN);
        due("put(0, 7)", x.put(0, 7), UNKNOWN);
        due("put(-1, 3)", x.put(-1, 3), UNKNOWN);
        due("put(4, -1)", x.put(4, -1), UNKNOWN);
        due("put(4, 3): in a PLACE", x.put(4, 3), STATE);
        due("put(3, 6): LOST", x.put(3, 6), STATE);
        due("take(4)", x.take(4), 4);
        due("put(4, 1): not OPEN", x.put(4, 1), STATE);
        due("put(4, 5): rests on an OPEN one", x.put(4, 5), STATE);
        due("put(4, 4): where it was", x.put(4, 4), 6);
        due("take(4)", x.take(4), 4);
        due("put(4, 3): cut", x.put(4, 3), 3);
        due("timber(4, 1)", x.timber(4, 1), 3);
        due("take(3)", x.take(3), 4);
        due("put(4, 4): too short then", x.put(4, 4), STATE);
        due("put(4, 6): too short", x.put(4, 6), STATE);
        due("put(4, 3): just as long", x.put(4, 3), 3);
        due("count(9)", x.count(9), 6);
    }

    // 10
    private static void move() {
        ShipFromItself x = shipOf(TOWER);
        due("move(7, 0)", x.move(7, 0), UNKNOWN);
        due("move(0, 7)", x.move(0, 7), UNKNOWN);
        due("move(-1, -1)", x.move(-1, -1), UNKNOWN);
        due("move(0, 3): bears others", x.move(0, 3), STATE);
        due("move(3, 6): LOST", x.move(3, 6), STATE);
        due("move(4, 4): not another one", x.move(4, 4), STATE);
        due("move(4, 5): rests on what it left", x.move(4, 5), STATE);
        due("move(4, 2): not OPEN", x.move(4, 2), STATE);
        due("move(2, 6)", x.move(2, 6), 5);
        due("place(2, 3)", x.place(2, 3), NONE);
        due("timber(2, 0)", x.timber(2, 0), 6);
        due("count(9): one ACT", x.count(9), 1);
        due("take(4)", x.take(4), 4);
        due("move(4, 2): LAID", x.move(4, 2), 5);
        due("move(4, 4): too short then", x.move(4, 4), STATE);
        due("move(4, 3)", x.move(4, 3), 3);
        due("count(3)", x.count(3), 0);
        due("count(9)", x.count(9), 4);
        due("back()", x.back(), 3);
        due("timber(4, 0)", x.timber(4, 0), 2);
        due("timber(4, 1)", x.timber(4, 1), 5);
    }

    // 11
    private static void watchAndWater() {
        ShipFromItself x = shipOf("S310P94-00O18-");
        due("watch()", x.watch(), 5);
        due("watch(): as much as THE HOLD bears", x.watch(), 10);
        due("count(6)", x.count(6), 0);
        due("watch(): SUNK", x.watch(), 15);
        due("count(6)", x.count(6), 1);
        due("watch()", x.watch(), STATE);
        due("count(5)", x.count(5), 15);
        ShipFromItself dry = shipOf("S950P94-00O11-P38-00");
        due("watch(): 0 at least", dry.watch(), 0);
        due("take(0)", dry.take(0), 0);
        due("take(2)", dry.take(2), 2);
        due("watch()", dry.watch(), 4);
        due("put(2, 1)", dry.put(2, 1), 1);
        due("put(0, 0)", dry.put(0, 0), 9);
        due("watch()", dry.watch(), 3);
        due("watch()", dry.watch(), 2);
    }

    private static void watchAndWorms() {
        ShipFromItself x = shipOf("S099P91-08P92-00P93-19P94-07");
        due("take(3)", x.take(3), 3);
        due("watch()", x.watch(), 4);
        due("timber(0, 3)", x.timber(0, 3), 9);
        due("timber(1, 3): none stay none", x.timber(1, 3), 0);
        due("timber(2, 0): LOST", x.timber(2, 0), LOST);
        due("place(2, 3)", x.place(2, 3), NONE);
        due("timber(3, 3): LAID", x.timber(3, 3), 7);
        due("watch()", x.watch(), 11);
        due("timber(0, 0)", x.timber(0, 0), LOST);
        due("timber(0, 3)", x.timber(0, 3), 10);
        due("timber(1, 0)", x.timber(1, 0), 1);
        due("put(0, 0): LOST", x.put(0, 0), STATE);
        due("watch()", x.watch(), 19);
        // She sinks in step 1: worms do not eat then.
        ShipFromItself sunk = shipOf("S001O19-P91-05");
        due("watch()", sunk.watch(), 9);
        due("timber(1, 3)", sunk.timber(1, 3), 5);
    }

    private static void watchAndFall() {
        ShipFromItself x = shipOf("S099P11-09P12000P13100P14200P15-00P16400");
        due("watch()", x.watch(), 0);
        for (int timber = 1; timber < 4; timber++) {
            due("timber(" + timber + ", 0)", x.timber(timber, 0), LAID);
        }
        due("timber(4, 0)", x.timber(4, 0), 4);
        due("timber(5, 0)", x.timber(5, 0), 5);
        due("leak()", x.leak(), 10);
        // What rests on an OPEN PLACE stays till a WATCH.
        ShipFromItself y = shipOf("S099O11-P12001P13100");
        due("timber(1, 0)", y.timber(1, 0), 1);
        due("leak()", y.leak(), 1);
        due("watch()", y.watch(), 1);
        due("timber(1, 0)", y.timber(1, 0), LAID);
        due("timber(1, 3): it ate ahead of it", y.timber(1, 3), 2);
        due("timber(2, 0)", y.timber(2, 0), LAID);
        ShipFromItself sunk = shipOf("S001O19-P12001");
        due("watch()", sunk.watch(), 9);
        due("timber(1, 0): SUNK, and that is all", sunk.timber(1, 0), 1);
    }

    // 12
    private static void back() {
        ShipFromItself x = shipOf(TOWER);
        due("back()", x.back(), STATE);
        x.move(4, 6);
        x.take(6);
        x.put(4, 3);
        x.watch();
        due("count(9)", x.count(9), 4);
        due("back()", x.back(), 3);
        due("WATER", x.count(5), 0);
        due("back()", x.back(), 2);
        due("timber(4, 0)", x.timber(4, 0), LAID);
        due("timber(4, 1)", x.timber(4, 1), 5);
        due("back()", x.back(), 1);
        due("timber(4, 0)", x.timber(4, 0), 6);
        due("back()", x.back(), 0);
        due("timber(4, 0)", x.timber(4, 0), 4);
        due("timber(4, 1)", x.timber(4, 1), 6);
        due("back()", x.back(), STATE);
        ShipFromItself sunk = shipOf("S020O19-P11-09P12101");
        due("watch()", sunk.watch(), 9);
        due("watch()", sunk.watch(), 21);
        due("back() of one SUNK", sunk.back(), 1);
        due("count(6)", sunk.count(6), 0);
        due("count(5)", sunk.count(5), 9);
        due("back()", sunk.back(), 0);
        due("timber(1, 0)", sunk.timber(1, 0), 1);
        due("timber(1, 3)", sunk.timber(1, 3), 9);
        due("timber(2, 0)", sunk.timber(2, 0), 2);
        due("timber(2, 3)", sunk.timber(2, 3), 1);
        due("THE TEXT stays", sunk.count(0), 20);
    }

    private static void backForgets() {
        ShipFromItself x = shipOf("S099O11-");
        for (int i = 1; i <= 30; i++) {
            due("watch()", x.watch(), i);
            due("count(9)", x.count(9), Math.min(24, i));
        }
        for (int left = 23; left >= 0; left--) {
            due("back()", x.back(), left);
            due("count(5)", x.count(5), left + 6);
        }
        due("back()", x.back(), STATE);
        due("count(5)", x.count(5), 6);
        due("watch()", x.watch(), 7);
        due("back()", x.back(), 0);
        due("count(5)", x.count(5), 6);
    }

    private static void backForgetsMany() {
        ShipFromItself x = shipOf("S901O19-P19-00O19-");
        for (int i = 0; i < 101; i++) {
            due("move(1, " + i % 3 + ")", x.move(1, (i + 2) % 3), 1);
        }
        due("count(9)", x.count(9), 24);
        for (int i = 100; i > 76; i--) {
            due("timber(1, 0)", x.timber(1, 0), (i + 2) % 3);
            due("back()", x.back(), i - 77);
        }
        due("timber(1, 0)", x.timber(1, 0), 78 % 3);
        due("back()", x.back(), STATE);
    }

    // 13
    private static void leak() {
        ShipFromItself x = shipOf(TOWER);
        due("leak()", x.leak(), 8 + 2 + 1);
        x.take(4);
        due("leak()", x.leak(), 8 + 2 + 1 + 6);
        x.put(4, 3);
        due("leak()", x.leak(), 2 + 1 + 6);
        due("leak()", shipOf("S001" + "O19-".repeat(10)).leak(), 90);
        ShipFromItself sunk = shipOf("S001O19-");
        sunk.watch();
        due("leak() of one SUNK", sunk.leak(), 9);
    }

    // 14
    private static void floats() {
        due("floats()", shipOf("S310O18-").floats(), 2);
        due("floats(): THE HOLD is full", shipOf("S099O11-").floats(), 99);
        due("floats(): 98", shipOf("S098O11-").floats(), 98);
        due("floats(): at once", shipOf("S001O12-").floats(), 0);
        due("floats(): PUMPS as good as LEAK", shipOf("S901O19-").floats(), 99);
        // Two WATCHES till it is LOST, then 9 a WATCH: 0, 0, 9, 18, 27.
        due("floats(): by worms", shipOf("S020P19-08").floats(), 4);
        due("floats(): what rests on it too", shipOf("S020P11-09P19000").floats(), 3);
        due("floats(): what has fallen at first", shipOf("S020O10-P19000").floats(), 3);
        ShipFromItself x = shipOf("S020P19-08");
        x.watch();
        due("floats()", x.floats(), 3);
        due("timber(0, 3): nothing is changed", x.timber(0, 3), 9);
        due("count(9)", x.count(9), 1);
        x.take(0);
        due("floats(): LAID", x.floats(), 2);
        x.watch();
        due("floats()", x.floats(), 1);
        x.watch();
        due("floats(): the next one sinks her", x.floats(), 0);
        x.watch();
        due("floats() of one SUNK", x.floats(), 0);
    }

    // 15
    private static void harm() {
        ShipFromItself x = shipOf(TOWER);
        due("harm(7)", x.harm(7), UNKNOWN);
        due("harm(-1)", x.harm(-1), UNKNOWN);
        due("harm(3): OPEN", x.harm(3), STATE);
        due("harm(4)", x.harm(4), 11 + 6);
        due("harm(1)", x.harm(1), 11 + 3 + 6);
        due("harm(2)", x.harm(2), 11 + 5);
        due("harm(0)", x.harm(0), 11 + 4 + 3 + 5 + 6);
        due("leak(): nothing is changed", x.leak(), 11);
        due("timber(0, 0)", x.timber(0, 0), 0);
        due("harm(2): what rests on an OPEN one comes down too", shipOf("S001O11-P12000P14-00").harm(2), 7);
        ShipFromItself sunk = shipOf("S001O19-P11-00");
        sunk.watch();
        due("harm(1) of one SUNK", sunk.harm(1), 10);
        due("harm(0) of one SUNK", sunk.harm(0), STATE);
    }

    // 16
    private static void may() {
        ShipFromItself x = shipOf(TOWER);
        due("may(7, 0)", x.may(7, 0), UNKNOWN);
        due("may(0, 7)", x.may(0, 7), UNKNOWN);
        due("may(0, -1)", x.may(0, -1), UNKNOWN);
        int[] allowed = {23, 25, 26, 43, 46};
        for (int told = 0; told < 70; told++) {
            int want = 0;
            for (int one : allowed) {
                want |= told == one ? 1 : 0;
            }
            if (told % 10 < 7) {
                due("may() of " + told, x.may(told / 10, told % 10), want);
            }
        }
        x.take(4);
        due("may(4, 3): LAID", x.may(4, 3), 1);
        due("may(4, 4): LAID", x.may(4, 4), 1);
        due("may(4, 5): rests on an OPEN one", x.may(4, 5), 0);
        due("may(1, 6): bears an OPEN one now", x.may(1, 6), 1);
        due("count(9): nothing is changed", x.count(9), 1);
        ShipFromItself sunk = shipOf("S001O19-P11-00");
        due("may(1, 0)", sunk.may(1, 0), 1);
        sunk.watch();
        due("may(1, 0) of one SUNK", sunk.may(1, 0), 0);
        due("may(2, 0) of one SUNK", sunk.may(2, 0), UNKNOWN);
    }

    private static void best(ShipFromItself x, int k, int leak, int first, int second) {
        due("best(" + k + ")", x.best(k), leak);
        due("bestAt(" + k + ", 0)", x.bestAt(k, 0), first);
        due("bestAt(" + k + ", 1)", x.bestAt(k, 1), second);
        due("bestAt(" + k + ", 2)", x.bestAt(k, 2), NONE);
        due("bestAt(" + k + ", -1)", x.bestAt(k, -1), NONE);
        due("bestAt(" + k + ", max)", x.bestAt(k, Integer.MAX_VALUE), NONE);
    }

    // 17, 18
    private static void best() {
        ShipFromItself x = shipOf(TOWER);
        best(x, 0, 11, NONE, NONE);
        // By 2 into 3: 8 less, 5 more. By 4 into 3: 8 less, 6 more.
        best(x, 1, 8, 23, NONE);
        // Then 4 into 2 costs 6 for 5; 4 into 6 costs 6 for 1.
        best(x, 2, 8, 23, NONE);
        due("best(3)", x.best(3), OUTSIDE);
        due("best(-1)", x.best(-1), OUTSIDE);
        due("bestAt(3, 0)", x.bestAt(3, 0), OUTSIDE);
        due("bestAt(-1, 9)", x.bestAt(-1, 9), OUTSIDE);
        x.take(4);
        best(x, 1, 9, 43, NONE);
        due("count(9): nothing is changed", x.count(9), 1);
        ShipFromItself sunk = shipOf("S001O19-");
        sunk.watch();
        due("best(0) of one SUNK", sunk.best(0), STATE);
        due("bestAt(2, 0) of one SUNK", sunk.bestAt(2, 0), STATE);
        due("best(3) of one SUNK", sunk.best(3), OUTSIDE);
        due("bestAt(3, 0) of one SUNK", sunk.bestAt(3, 0), OUTSIDE);
    }

    private static void bestFewestAndFirst() {
        // Each of 1 and 2 may close 0; the first row counts.
        best(shipOf("S001O19-P12-00P12-00"), 2, 2, 10, NONE);
        // Two MOVES close 0 by what is longer, and its PLACE by what is shorter.
        best(shipOf("S001O59-P55-00P33-00"), 1, 5, 10, NONE);
        best(shipOf("S001O59-P55-00P56-00O38-"), 2, 11, 10, 23);
        // As good by one MOVE as by two: one.
        best(shipOf("S001O19-P10-00P10-00"), 2, 0, 10, NONE);
        // What is no better is none at all.
        best(shipOf("S001O19-P19-00P19-00"), 2, 9, NONE, NONE);
        // 1 rests on 0: by the first MOVE 0 bears it.
        ShipFromItself laid = shipOf("S001P99-00P99000");
        laid.take(1);
        laid.take(0);
        best(laid, 2, 0, 0, 11);
        best(laid, 1, 9, 0, NONE);
        // Ten TIMBERS: 9 into 0 is told as 90.
        best(shipOf("S001O19-" + "P19-00".repeat(8) + "P12-00"), 2, 2, 90, NONE);
    }

    private static void bestAtByItself() {
        // Only 1 fits into 0; 2 fits into none. What was asked ahead of a call must not show in it.
        ShipFromItself x = shipOf("S001O39-P35-00P24-00");
        due("bestAt(1, 0) at first", x.bestAt(1, 0), 10);
        due("bestAt(0, 0)", x.bestAt(0, 0), NONE);
        due("bestAt(2, 0)", x.bestAt(2, 0), 10);
        x.take(1);
        due("bestAt(2, 0) of another state", x.bestAt(2, 0), 10);
        x.back();
        x.move(1, 0);
        due("bestAt(2, 0) of another state", x.bestAt(2, 0), NONE);
        ShipFromItself y = shipOf("S001O29-P35-00P24-00P31-00O31-");
        due("bestAt(2, 1) at first", y.bestAt(2, 1), NONE);
        due("bestAt(2, 0)", y.bestAt(2, 0), 30);
    }

    private static void port(ShipFromItself x, int n, int moves, int first, int second) {
        due("port(" + n + ")", x.port(n), moves);
        due("portAt(" + n + ", 0)", x.portAt(n, 0), first);
        due("portAt(" + n + ", 1)", x.portAt(n, 1), second);
        due("portAt(" + n + ", 2)", x.portAt(n, 2), NONE);
        due("portAt(" + n + ", -1)", x.portAt(n, -1), NONE);
        due("portAt(" + n + ", min)", x.portAt(n, Integer.MIN_VALUE), NONE);
    }

    // 19, 20
    private static void port() {
        // LEAK is 11; 4 by one MOVE; 2 by two.
        ShipFromItself x = shipOf("S020O59-P52-00P40-00O42-");
        due("floats()", x.floats(), 1);
        port(x, 1, 0, NONE, NONE);
        port(x, 2, 1, 10, NONE);
        port(x, 5, 1, 10, NONE);
        port(x, 6, 2, 10, 23);
        port(x, 10, 2, 10, 23);
        port(x, 11, NONE, NONE, NONE);
        ShipFromItself two = shipOf("S020O59-P52-00P40-00O42-O42-");
        due("floats()", two.floats(), 1);
        port(two, 99, NONE, NONE, NONE);
        port(shipOf("S020O15-O15-P10-00P10-00"), 99, 2, 20, 31);
        due("port(0)", x.port(0), OUTSIDE);
        due("port(100)", x.port(100), OUTSIDE);
        due("port(-1)", x.port(-1), OUTSIDE);
        due("portAt(0, 0)", x.portAt(0, 0), OUTSIDE);
        due("portAt(100, -1)", x.portAt(100, -1), OUTSIDE);
        due("count(9): nothing is changed", x.count(9), 0);
        due("leak()", x.leak(), 11);
        x.watch();
        x.watch();
        due("count(6)", x.count(6), 1);
        due("port(1) of one SUNK", x.port(1), STATE);
        due("portAt(1, 0) of one SUNK", x.portAt(1, 0), STATE);
        due("port(100) of one SUNK", x.port(100), OUTSIDE);
        due("portAt(0, 0) of one SUNK", x.portAt(0, 0), OUTSIDE);
    }

    private static void portFewestAndFirst() {
        // 1 has worms, 2 none: only 2 keeps 0 closed.
        ShipFromItself x = shipOf("S020O15-P10-09P10-00");
        port(x, 4, 0, NONE, NONE);
        port(x, 5, 1, 10, NONE);
        port(x, 6, 1, 20, NONE);
        port(x, 99, 1, 20, NONE);
        // The same after a WATCH: WATER counts.
        due("watch()", x.watch(), 5);
        port(x, 3, 0, NONE, NONE);
        port(x, 4, 1, 20, NONE);
        // What rests on an OPEN PLACE is saved by what closes that.
        port(shipOf("S020O10-P19000P10-00"), 99, 1, 20, NONE);
    }

    private static void portAtByItself() {
        ShipFromItself x = shipOf("S020O59-P52-00P40-00O42-");
        due("portAt(6, 1) at first", x.portAt(6, 1), 23);
        due("portAt(2, 1)", x.portAt(2, 1), NONE);
        due("portAt(2, 0)", x.portAt(2, 0), 10);
        due("portAt(11, 0)", x.portAt(11, 0), NONE);
        due("portAt(1, 0)", x.portAt(1, 0), NONE);
        due("bestAt(2, 1)", x.bestAt(2, 1), 23);
        due("portAt(99, 0)", x.portAt(99, 0), NONE);
    }

    private static void storm(ShipFromItself x, int tenths, int y, long above, long below) {
        due("storm(" + tenths + ", " + y + ", true)", x.storm(tenths, y, true), above);
        due("storm(" + tenths + ", " + y + ", false)", x.storm(tenths, y, false), below);
    }

    // 21
    private static void storm() {
        ShipFromItself x = shipOf("S001O12-P13-00P14-00");
        storm(x, 5, 1, 0, 1);
        storm(x, 5, 2, 1, 4);
        storm(x, 5, 4, 1, 4);
        storm(x, 5, 5, 1, 2);
        storm(x, 5, 6, 3, 4);
        storm(x, 5, 8, 3, 4);
        storm(x, 5, 9, 1, 1);
        storm(x, 1, 5, 9, 10);
        storm(x, 1, 2, 81, 100);
        storm(x, 0, 2, 1, 1);
        storm(x, 0, 1, 0, 1);
        storm(x, 10, 8, 0, 1);
        storm(x, 10, 9, 1, 1);
        storm(x, 3, 99, 1, 1);
        // Nothing comes down: the one that rests is torn out by itself.
        storm(shipOf("S001P11-00P12000"), 1, 2, 99, 100);
        storm(shipOf("S001P10-00P12-00"), 1, 0, 9, 10);
        storm(shipOf("S001" + "P19-00".repeat(10)), 1, 89, 9999999999L, 10000000000L);
        storm(shipOf("S001" + "P19-00".repeat(10)), 1, 0, 3486784401L, 10000000000L);
        storm(shipOf("S001" + "P19-00".repeat(10)), 9, 90, 1, 1);
        int[][] outside = {{-1, 0}, {11, 0}, {0, -1}, {0, 100}, {Integer.MAX_VALUE, Integer.MIN_VALUE}};
        for (int[] one : outside) {
            storm(x, one[0], one[1], OUTSIDE, OUTSIDE);
        }
        x.take(1);
        storm(x, 5, 5, 1, 2);
        storm(x, 5, 4, 0, 1);
        x.watch();
        due("count(6)", x.count(6), 1);
        storm(x, 5, 5, 1, 2);
    }

    private static void share(ShipFromItself x, int ship, int above, int below) {
        due("share(" + ship + ", true)", x.share(ship, true), above);
        due("share(" + ship + ", false)", x.share(ship, false), below);
    }

    // 22
    private static void share() {
        ShipFromItself x = shipOf("S099P40-00P60-19P20-10O30-");
        share(x, 0, 1, 3);
        share(x, 1, 2, 3);
        share(x, 2, 0, 1);
        share(x, 3, UNKNOWN, UNKNOWN);
        share(x, -1, UNKNOWN, UNKNOWN);
        x.move(0, 3);
        share(x, 0, 3, 11);
        x.take(3);
        share(x, 0, 0, 1);
        share(x, 1, 1, 1);
        x.watch();
        due("timber(1, 0)", x.timber(1, 0), LOST);
        share(x, 1, 1, 1);
        x.take(2);
        share(x, 1, 0, 1);
        share(x, 0, 0, 1);
        share(shipOf("S001O19-"), 0, 0, 1);
    }

    // 23
    private static void log() {
        ShipFromItself x = shipOf("S099O10-P10-00P10-00");
        due("log(0, 1)", x.log(0, 1), 1);
        due("log(0, 2)", x.log(0, 2), 0);
        due("log(0, 0)", x.log(0, 0), 0);
        due("log(1, 2)", x.log(1, 2), 1);
        due("log(1, 4)", x.log(1, 4), 1);
        due("log(1, 1)", x.log(1, 1), 0);
        // There and back, by 1 or by 2.
        due("log(2, 1)", x.log(2, 1), 2);
        due("log(2, 2)", x.log(2, 2), 1);
        due("log(3, 1)", x.log(3, 1), 2);
        due("log(3, 2)", x.log(3, 2), 3);
        due("log(-1, 0)", x.log(-1, 0), OUTSIDE);
        due("log(4, 0)", x.log(4, 0), OUTSIDE);
        due("log(0, 8)", x.log(0, 8), OUTSIDE);
        due("log(0, -1)", x.log(0, -1), OUTSIDE);
        due("log(0, min)", x.log(0, Integer.MIN_VALUE), OUTSIDE);
        due("log(0, 7)", x.log(0, 7), 0);
        x.take(1);
        due("log(1, 1)", x.log(1, 1), 1);
        due("log(1, 3)", x.log(1, 3), 0);
        due("log(1, 6)", x.log(1, 6), 1);
        due("log(2, 1): 1 at last, or ahead", x.log(2, 1), 2);
        due("count(9): nothing is changed", x.count(9), 1);
        logOfMany();
        ShipFromItself sunk = shipOf("S001O19-");
        sunk.watch();
        due("log(0, 1) of one SUNK", sunk.log(0, 1), STATE);
        due("log(4, 1) of one SUNK", sunk.log(4, 1), OUTSIDE);
        due("log(0, 2) of one SUNK", sunk.log(0, 2), OUTSIDE);
    }

    private static void logOfMany() {
        ShipFromItself x = shipOf("S001" + "P10-00".repeat(10));
        for (int place = 0; place < 10; place++) {
            x.take(place);
        }
        due("log(1, all but 0)", x.log(1, 1022), 10);
        due("log(2, all but 0 and 9)", x.log(2, 510), 2 * 10 * 9);
        due("log(3, all but 0, 1 and 9)", x.log(3, 508), 6 * 10 * 9 * 8);
        due("log(3, all but 0): one TIMBER, through two other PLACES", x.log(3, 1022), 10 * 9 * 9);
        due("log(3, all)", x.log(3, 1023), 0);
    }

    // 24, 25
    private static void keepAndAgain() {
        ShipFromItself x = shipOf("S099P95-03O91-P91-00");
        due("keep(2)", x.keep(2), UNKNOWN);
        due("keep(-1)", x.keep(-1), UNKNOWN);
        due("again(2)", x.again(2), UNKNOWN);
        due("again(-1)", x.again(-1), UNKNOWN);
        due("again(0)", x.again(0), STATE);
        due("again(1)", x.again(1), STATE);
        due("watch()", x.watch(), 1);
        due("keep(1)", x.keep(1), 1);
        due("again(0)", x.again(0), STATE);
        due("count(9): keep is no ACT", x.count(9), 1);
        due("move(0, 1)", x.move(0, 1), 9);
        due("watch()", x.watch(), 6);
        due("keep(0)", x.keep(0), 6);
        due("again(1)", x.again(1), 1);
        due("count(5)", x.count(5), 1);
        due("count(9): empty", x.count(9), 0);
        due("back()", x.back(), STATE);
        due("timber(0, 0)", x.timber(0, 0), 0);
        due("timber(0, 3)", x.timber(0, 3), 4);
        due("place(1, 3)", x.place(1, 3), NONE);
        due("again(0)", x.again(0), 6);
        due("timber(0, 0)", x.timber(0, 0), 1);
        due("timber(0, 3)", x.timber(0, 3), 5);
        due("keep(1): anew", x.keep(1), 6);
        due("take(1)", x.take(1), 0);
        due("back() keeps what is kept", x.back(), 0);
        due("again(1)", x.again(1), 6);
        due("again(1): as often as wished", x.again(1), 6);
        keepCutAndSunk();
    }

    private static void keepCutAndSunk() {
        ShipFromItself x = shipOf("S009P95-00O49-");
        due("keep(0)", x.keep(0), 0);
        due("move(0, 1)", x.move(0, 1), 4);
        due("keep(1)", x.keep(1), 0);
        due("again(0)", x.again(0), 0);
        due("timber(0, 1)", x.timber(0, 1), 9);
        due("again(1)", x.again(1), 0);
        due("timber(0, 1)", x.timber(0, 1), 4);
        due("watch()", x.watch(), 5);
        due("watch()", x.watch(), 10);
        due("keep(0) of one SUNK", x.keep(0), 10);
        due("again(1) of one SUNK", x.again(1), 0);
        due("count(6)", x.count(6), 0);
        due("again(0)", x.again(0), 10);
        due("count(6)", x.count(6), 1);
        due("watch()", x.watch(), STATE);
    }

    // 26
    private static void count() {
        ShipFromItself x = shipOf("S520P94-09O380P66011P55-20P73-00");
        int[] counts = {32, 5, 1, 0, 1, 0, 0, 5, 20, 0};
        for (int what = 0; what < counts.length; what++) {
            due("count(" + what + ")", x.count(what), counts[what]);
        }
        x.take(3);
        x.write(2, 0);
        x.watch();
        int[] then = {34, 5, 4, 2, 2, 8, 0, 5, 20, 2};
        for (int what = 0; what < then.length; what++) {
            due("then count(" + what + ")", x.count(what), then[what]);
        }
        due("count(-1)", x.count(-1), OUTSIDE);
        due("count(10)", x.count(10), OUTSIDE);
        due("count(min)", x.count(Integer.MIN_VALUE), OUTSIDE);
    }

    private static void sunkIsNotChanged() {
        ShipFromItself x = shipOf("S005P91-05P91-00O99-");
        due("take(0)", x.take(0), 0);
        due("watch()", x.watch(), 10);
        due("take(1)", x.take(1), STATE);
        due("take(3)", x.take(3), UNKNOWN);
        due("put(0, 0)", x.put(0, 0), STATE);
        due("put(0, 3)", x.put(0, 3), UNKNOWN);
        due("move(0, 0)", x.move(0, 0), STATE);
        due("move(3, 0)", x.move(3, 0), UNKNOWN);
        due("watch()", x.watch(), STATE);
        due("count(9)", x.count(9), 2);
        due("back()", x.back(), 1);
        due("put(0, 0)", x.put(0, 0), 9);
    }

    private static void refusedChangesNothing() {
        ShipFromItself x = shipOf(TOWER);
        x.take(4);
        x.keep(0);
        x.watch();
        x.take(0);
        x.take(9);
        x.put(4, 1);
        x.put(9, 9);
        x.move(0, 3);
        x.move(-1, 3);
        x.write(0, 1);
        x.keep(2);
        x.again(1);
        x.again(7);
        due("count(0)", x.count(0), TOWER.length());
        due("count(3)", x.count(3), 1);
        due("count(5)", x.count(5), 14);
        due("count(9)", x.count(9), 2);
        due("timber(0, 0)", x.timber(0, 0), 0);
        due("timber(4, 0)", x.timber(4, 0), LAID);
        due("again(0)", x.again(0), 0);
    }
}
