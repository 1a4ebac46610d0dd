/** THE TEXT, FAULT and THE SHIP (promises 1 to 7): the boundaries, each by the sentence that names it. */
public final class EdgesOfTextTest {
    private static final int UNKNOWN = ShipFromItself.UNKNOWN;
    private static final int STATE = ShipFromItself.STATE;
    private static final int FULL = ShipFromItself.FULL;
    private static final int NONE = ShipFromItself.NONE;
    private static final int LAID = 100;
    private static final int LOST = 200;

    private static final String FIGURES = "0123456789";
    private static final String FROM_ONE = "123456789";

    public static void main(String[] args) {
        Check.sentence("A new object: No PLACES", EdgesOfTextTest::newObject);
        Check.sentence("At first THE SHIP is S001", EdgesOfTextTest::firstShip);
        Check.sentence("n bytes (1 to 8) of v, the lowest n, the highest of these first", EdgesOfTextTest::lowestBytes);
        Check.sentence("n bytes of v: each of 0 to 255", EdgesOfTextTest::anyByte);
        Check.sentence("how long it is: 72 at most", EdgesOfTextTest::upToFull);
        Check.sentence("FULL: nothing comes", EdgesOfTextTest::fullTakesNothing);
        Check.sentence("OUTSIDE; FULL: the first one", EdgesOfTextTest::outsideBeforeFull);
        Check.sentence("THE TEXT is empty: how long it was", EdgesOfTextTest::wipe);
        Check.sentence("a wiped text leaves no byte behind", EdgesOfTextTest::wipedBytes);
        Check.sentence("FAULT of an empty text", EdgesOfTextTest::emptyText);
        Check.sentence("the first byte by which THE TEXT can be no SHIP: each byte at each place",
            EdgesOfTextTest::everyByte);
        Check.sentence("RESTS on PLACE r (one that was told ahead of it)", EdgesOfTextTest::restsOnOneAhead);
        Check.sentence("what THE HOLD bears (01 to 99)", EdgesOfTextTest::hold);
        Check.sentence("PUMPS (a figure, 0 to 9)", EdgesOfTextTest::pumps);
        Check.sentence("PLACES, none or more (10 at most)", EdgesOfTextTest::tenPlaces);
        Check.sentence("PLACES, numbered as they are told", EdgesOfTextTest::numberedAsTold);
        Check.sentence("its length set aside", EdgesOfTextTest::lengthSetAside);
        Check.sentence("its length, if it is only not at its end", EdgesOfTextTest::notAtItsEnd);
        Check.sentence("whatever came behind it", EdgesOfTextTest::whateverComesBehind);
        Check.sentence("THE TEXT (that stays as it is) is THE SHIP", EdgesOfTextTest::textStays);
        Check.sentence("ship: WATER is 0, THE ROW of ACTS is empty, what was kept is gone", EdgesOfTextTest::shipAnew);
        Check.sentence("ship: STATE: a FAULT, and all stays", EdgesOfTextTest::faultyText);
        Check.sentence("THE SHIP stays as it is while THE TEXT is written anew", EdgesOfTextTest::shipStays);
        Check.sentence("a SHIP of fewer PLACES has nothing of the one ahead", EdgesOfTextTest::fewerPlaces);
        Check.sentence("place: l long (1 to 9); LETS IN w (0 to 9)", EdgesOfTextTest::placeNumbers);
        Check.sentence("place: on which it RESTS; NONE: none", EdgesOfTextTest::placeRests);
        Check.sentence("place: the TIMBER in it; NONE: it is OPEN", EdgesOfTextTest::placeTimber);
        Check.sentence("place, timber: UNKNOWN from the number of PLACES on", EdgesOfTextTest::lastPlace);
        Check.sentence("timber: its PLACE, 100 LAID, 200 LOST", EdgesOfTextTest::timberWhere);
        Check.sentence("timber: how long it is, just as long as its PLACE", EdgesOfTextTest::timberLong);
        Check.sentence("timber: its SHIP (0 to 2); NONE: it was never", EdgesOfTextTest::timberShip);
        Check.sentence("timber: WORMS (0 to 9, 10 at its end)", EdgesOfTextTest::timberWorms);
        Check.end();
    }

    private static void due(String call, long got, long want) {
        Check.due(call, got, want);
    }

    private static ShipFromItself shipOf(String text) {
        return Check.shipOf(text);
    }

    private static void fault(String text, int want) {
        ShipFromItself x = new ShipFromItself();
        Check.write(x, text);
        due("bytes of " + text, x.count(0), text.length());
        due("fault() of " + text, x.fault(), want);
        due("ship() of " + text, x.ship() == STATE ? 1 : 0, want == NONE ? 0 : 1);
    }

    private static void newObject() {
        ShipFromItself x = new ShipFromItself();
        due("count(1)", x.count(1), 0);
        due("place(0, 0)", x.place(0, 0), UNKNOWN);
        due("timber(0, 0)", x.timber(0, 0), UNKNOWN);
        due("count(2)", x.count(2), 0);
        due("count(3)", x.count(3), 0);
        due("count(4)", x.count(4), 0);
        due("count(9)", x.count(9), 0);
    }

    private static void firstShip() {
        ShipFromItself x = new ShipFromItself();
        due("PUMPS", x.count(7), 0);
        due("THE HOLD", x.count(8), 1);
        due("WATER", x.count(5), 0);
        due("SUNK", x.count(6), 0);
        due("THE TEXT is empty all the same", x.count(0), 0);
        due("fault()", x.fault(), 0);
        due("ship()", x.ship(), STATE);
        due("keep(0)", x.keep(0), 0);
        for (int acts = 1; acts <= 30; acts++) {
            due("watch()", x.watch(), 0);
            due("count(9)", x.count(9), Math.min(acts, 24));
        }
        due("again(0)", x.again(0), 0);
        due("count(9)", x.count(9), 0);
    }

    private static void lowestBytes() {
        String text = "S110O72-";
        int[] faults = {1, 2, 3, NONE, 5, 6, 7, NONE};
        for (int n = 1; n <= 8; n++) {
            for (long garbage : new long[] {0, -1, 0x5353535353535353L}) {
                long v = n == 8 ? 0 : garbage;
                for (int i = 0; i < n; i++) {
                    v = v << 8 | text.charAt(i);
                }
                ShipFromItself x = new ShipFromItself();
                due("write(" + n + ", " + v + ")", x.write(n, v), n);
                due("count(0)", x.count(0), n);
                due("fault() of " + n + " bytes", x.fault(), faults[n - 1]);
            }
        }
        ShipFromItself x = shipOf(text);
        due("place(0, 0)", x.place(0, 0), 7);
        due("place(0, 1)", x.place(0, 1), 2);
        due("PUMPS", x.count(7), 1);
        due("THE HOLD", x.count(8), 10);
    }

    private static void anyByte() {
        for (int one = 0; one < 256; one++) {
            ShipFromItself x = new ShipFromItself();
            due("write(1, " + one + ")", x.write(1, one), 1);
            due("fault() of " + one, x.fault(), one == 'S' ? 1 : 0);
            ShipFromItself negative = new ShipFromItself();
            due("write(1, " + (one - 256) + ")", negative.write(1, one - 256), 1);
            due("fault() of " + (one - 256), negative.fault(), one == 'S' ? 1 : 0);
        }
    }

    private static ShipFromItself ofLength(int bytes) {
        ShipFromItself x = new ShipFromItself();
        Check.write(x, "S".repeat(bytes));
        due("bytes", x.count(0), bytes);
        return x;
    }

    private static void upToFull() {
        for (int n = 1; n <= 8; n++) {
            ShipFromItself x = ofLength(72 - n);
            due("write(" + n + ", 0): just 72", x.write(n, 0), 72);
            due("count(0)", x.count(0), 72);
            ShipFromItself y = ofLength(73 - n);
            due("write(" + n + ", 0): 73", y.write(n, 0), FULL);
            due("count(0)", y.count(0), 73 - n);
            due("write(" + n + ", 0): 80 at most", ofLength(72).write(n, 0), FULL);
        }
        ShipFromItself byOnes = new ShipFromItself();
        for (int bytes = 1; bytes <= 72; bytes++) {
            due("write(1, S)", byOnes.write(1, 'S'), bytes);
        }
        due("write(1, S)", byOnes.write(1, 'S'), FULL);
        due("count(0)", byOnes.count(0), 72);
    }

    private static void fullTakesNothing() {
        // 72 bytes; each try would bring a byte by which a SHIP of 4 bytes has a FAULT.
        ShipFromItself x = ofLength(71);
        due("write(2, 0)", x.write(2, 0), FULL);
        due("write(8, 0)", x.write(8, 0), FULL);
        due("count(0)", x.count(0), 71);
        due("write(1, 0)", x.write(1, 0), 72);
        due("write(1, 0)", x.write(1, 0), FULL);
        due("wipe()", x.wipe(), 72);
        Check.write(x, "S001");
        due("fault()", x.fault(), NONE);
    }

    private static void outsideBeforeFull() {
        for (int n : new int[] {0, 9, -1, Integer.MIN_VALUE, Integer.MAX_VALUE}) {
            due("write(" + n + ", 0)", ofLength(72).write(n, 0), ShipFromItself.OUTSIDE);
            due("write(" + n + ", 0)", ofLength(0).write(n, 0), ShipFromItself.OUTSIDE);
        }
    }

    private static void wipe() {
        for (int bytes : new int[] {0, 1, 4, 71, 72}) {
            ShipFromItself x = ofLength(bytes);
            due("wipe()", x.wipe(), bytes);
            due("count(0)", x.count(0), 0);
            due("wipe() once more", x.wipe(), 0);
            due("fault()", x.fault(), 0);
        }
        ShipFromItself x = ofLength(72);
        x.wipe();
        for (int bytes = 8; bytes <= 72; bytes += 8) {
            due("write(8, 0)", x.write(8, 0), bytes);
        }
    }

    private static void wipedBytes() {
        ShipFromItself x = shipOf("S001O11-");
        x.wipe();
        due("write(1, S)", x.write(1, 'S'), 1);
        due("fault(): 001O11- is gone", x.fault(), 1);
        x.wipe();
        Check.write(x, "S001O1");
        due("fault(): 1- is gone", x.fault(), 6);
        due("ship()", x.ship(), STATE);
    }

    private static void emptyText() {
        ShipFromItself x = new ShipFromItself();
        due("fault()", x.fault(), 0);
        due("ship()", x.ship(), STATE);
    }

    /** Behind these bytes only the signs of next can stand; ends tells whether a SHIP ends by each of them. */
    private static void behind(String text, String next, boolean ends) {
        for (int sign = 0; sign < 256; sign++) {
            boolean fits = next.indexOf(sign) >= 0;
            String longer = text + (char) sign;
            fault(longer, !fits ? text.length() : ends ? NONE : longer.length());
        }
    }

    private static void everyByte() {
        behind("", "S", false);
        behind("S", FIGURES, false);
        behind("S5", FIGURES, false);
        behind("S50", FROM_ONE, true);
        behind("S51", FIGURES, true);
        behind("S59", FIGURES, true);
        behind("S509", "PO", false);
        behind("S509O", FROM_ONE, false);
        behind("S509O1", FIGURES, false);
        behind("S509O19", "-", true);
        behind("S509O19-", "PO", false);
        behind("S509P", FROM_ONE, false);
        behind("S509P9", FIGURES, false);
        behind("S509P90", "-", false);
        behind("S509P90-", "012", false);
        behind("S509P90-2", FIGURES, true);
        behind("S509P90-29", "PO", false);
        behind("S509P90-29O", FROM_ONE, false);
        behind("S509P90-29O9", FIGURES, false);
        behind("S509P90-29O99", "-0", true);
        behind("S509O10-P", FROM_ONE, false);
        behind("S509O10-P1", FIGURES, false);
        behind("S509O10-P10", "-0", false);
        behind("S509O10-P100", "012", false);
        behind("S509O10-P1000", FIGURES, true);
        behind("S509O10-P10-0", FIGURES, true);
        behind("S509" + "O10-".repeat(9), "PO", false);
        behind("S509" + "O10-".repeat(9) + "P", FROM_ONE, false);
        behind("S509" + "O10-".repeat(9) + "P1", FIGURES, false);
        behind("S509" + "O10-".repeat(9) + "P1000", FIGURES, true);
        behind("S509" + "O10-".repeat(10), "", false);
        behind("S509" + "P10-00".repeat(10), "", false);
    }

    private static void restsOnOneAhead() {
        for (String item : new String[] {"O10-", "P10-00"}) {
            for (int place = 0; place < 10; place++) {
                String ahead = "S001" + item.repeat(place);
                behind(ahead + "O10", "-" + FIGURES.substring(0, place), true);
                behind(ahead + "P10", "-" + FIGURES.substring(0, place), false);
            }
        }
    }

    private static void hold() {
        for (int hold = 0; hold < 100; hold++) {
            String text = "S0" + hold / 10 + hold % 10;
            fault(text, hold == 0 ? 3 : NONE);
            if (hold > 0) {
                due("count(8) of " + text, shipOf(text).count(8), hold);
            }
        }
    }

    private static void pumps() {
        for (int pumps = 0; pumps < 10; pumps++) {
            due("count(7)", shipOf("S" + pumps + "99").count(7), pumps);
        }
    }

    private static void tenPlaces() {
        for (String item : new String[] {"O10-", "P10-00"}) {
            for (int places = 0; places <= 10; places++) {
                String text = "S001" + item.repeat(places);
                fault(text, NONE);
                due("ship() of " + places + " PLACES", shipOf(text).ship(), places);
            }
            String ten = "S001" + item.repeat(10);
            fault(ten + "O", ten.length());
            fault(ten + "P", ten.length());
            fault(ten + "O10-", ten.length());
            fault(ten + "S", ten.length());
        }
    }

    private static void numberedAsTold() {
        String text = "S001";
        for (int place = 0; place < 10; place++) {
            int length = 9 - place % 9;
            text += place % 2 == 0 ? "O" + length + place + "-" : "P" + length + place + "-" + place % 3 + place;
        }
        ShipFromItself x = shipOf(text);
        for (int place = 0; place < 10; place++) {
            boolean filled = place % 2 == 1;
            due("place(" + place + ", 0)", x.place(place, 0), 9 - place % 9);
            due("place(" + place + ", 1)", x.place(place, 1), place);
            due("place(" + place + ", 3)", x.place(place, 3), filled ? place : NONE);
            due("timber(" + place + ", 0)", x.timber(place, 0), filled ? place : LOST);
            due("timber(" + place + ", 1)", x.timber(place, 1), filled ? 9 - place % 9 : 0);
            due("timber(" + place + ", 2)", x.timber(place, 2), filled ? place % 3 : NONE);
            due("timber(" + place + ", 3)", x.timber(place, 3), filled ? place : 0);
        }
    }

    private static void lengthSetAside() {
        // Ten PLACES are 64 bytes at most: THE TEXT's 72 forbid none, and a longer one has its FAULT ahead of its end.
        String ten = "S001" + "P10-00".repeat(10);
        for (int more = 1; more <= 8; more++) {
            fault(ten + "P10-00P1".substring(0, more), 64);
        }
        fault("S001" + "O10-".repeat(10) + "O10-".repeat(7), 44);
    }

    private static void notAtItsEnd() {
        String text = "S320P94-00O380P51110";
        boolean[] ends = new boolean[text.length() + 1];
        ends[4] = true;
        ends[10] = true;
        ends[14] = true;
        ends[20] = true;
        for (int length = 0; length <= text.length(); length++) {
            fault(text.substring(0, length), ends[length] ? NONE : length);
        }
    }

    private static void whateverComesBehind() {
        for (String rest : new String[] {"", "O", "O10-", "S001", "\u0000", "-", "00"}) {
            fault("T" + rest, 0);
            fault("S000" + rest, 3);
            fault("S001O00-" + rest, 5);
            fault("S001O100" + rest, 7);
            fault("S001P11-3" + rest, 8);
            fault("S001P11-0O" + rest, 9);
            fault("S001O11-X" + rest, 8);
            fault("S001O11-O112" + rest, 11);
        }
        // Of several the first one.
        fault("S000T", 3);
        fault("S001O0X9", 5);
        fault("X001O0X9", 0);
    }

    private static void textStays() {
        ShipFromItself x = shipOf("S001O11-");
        due("count(0)", x.count(0), 8);
        due("fault()", x.fault(), NONE);
        due("ship() once more", x.ship(), 1);
        Check.write(x, "O220");
        due("count(0): behind what was there", x.count(0), 12);
        due("ship()", x.ship(), 2);
        due("place(1, 0)", x.place(1, 0), 2);
    }

    private static void shipAnew() {
        ShipFromItself x = shipOf("S003P92-00O42-");
        due("keep(0)", x.keep(0), 0);
        due("move(0, 1)", x.move(0, 1), 4);
        due("watch()", x.watch(), 2);
        due("keep(1)", x.keep(1), 2);
        due("watch()", x.watch(), 4);
        due("SUNK", x.count(6), 1);
        due("ship()", x.ship(), 2);
        due("WATER", x.count(5), 0);
        due("SUNK", x.count(6), 0);
        due("ACTS", x.count(9), 0);
        due("back()", x.back(), STATE);
        due("again(0)", x.again(0), STATE);
        due("again(1)", x.again(1), STATE);
        Told.same("the same text", x, shipOf("S003P92-00O42-"));
    }

    private static void faultyText() {
        ShipFromItself x = shipOf("S003P92-00O42-");
        x.keep(0);
        x.move(0, 1);
        x.watch();
        x.write(1, 'O');
        due("ship()", x.ship(), STATE);
        due("count(1)", x.count(1), 2);
        due("WATER", x.count(5), 2);
        due("ACTS", x.count(9), 2);
        due("timber(0, 1)", x.timber(0, 1), 4);
        due("back()", x.back(), 1);
        due("again(0): still kept", x.again(0), 0);
        due("timber(0, 1)", x.timber(0, 1), 9);
    }

    private static void shipStays() {
        ShipFromItself x = shipOf("S507P92-05O42-");
        x.wipe();
        due("PUMPS", x.count(7), 5);
        due("THE HOLD", x.count(8), 7);
        Check.write(x, "S001O11-O11-O11-");
        due("count(1)", x.count(1), 2);
        due("place(0, 0)", x.place(0, 0), 9);
        due("timber(0, 3)", x.timber(0, 3), 5);
        due("leak()", x.leak(), 2);
        due("ship()", x.ship(), 3);
        due("place(0, 0)", x.place(0, 0), 1);
        due("leak()", x.leak(), 3);
    }

    private static void fewerPlaces() {
        ShipFromItself x = shipOf("S999" + "P99-29".repeat(4) + "O990".repeat(6));
        x.take(3);
        x.watch();
        x.wipe();
        Check.write(x, "S001O11-");
        due("ship()", x.ship(), 1);
        due("count(2)", x.count(2), 1);
        due("count(3)", x.count(3), 0);
        due("count(4)", x.count(4), 1);
        due("leak()", x.leak(), 1);
        due("place(1, 0)", x.place(1, 0), UNKNOWN);
        due("timber(3, 0)", x.timber(3, 0), UNKNOWN);
        due("timber(0, 0)", x.timber(0, 0), LOST);
        due("timber(0, 1)", x.timber(0, 1), 0);
        due("timber(0, 2)", x.timber(0, 2), NONE);
        due("timber(0, 3)", x.timber(0, 3), 0);
        due("share(2) below", x.share(2, false), 1);
        due("storm(10, 0)", x.storm(10, 0, true), 0);
        due("storm(10, 1)", x.storm(10, 1, true), 1);
        due("log(0, 1)", x.log(0, 1), 1);
        due("log(0, 3)", x.log(0, 3), ShipFromItself.OUTSIDE);
        x.wipe();
        Check.write(x, "S001");
        due("ship()", x.ship(), 0);
        Told.same("no PLACES", x, shipOf("S001"));
    }

    private static void placeNumbers() {
        for (int figure = 0; figure < 10; figure++) {
            int length = Math.max(1, figure);
            ShipFromItself x = shipOf("S001O" + length + figure + "-P" + length + figure + "-00");
            for (int place = 0; place < 2; place++) {
                due("place(" + place + ", 0)", x.place(place, 0), length);
                due("place(" + place + ", 1)", x.place(place, 1), figure);
            }
        }
    }

    private static void placeRests() {
        String text = "S001O11-";
        for (int place = 1; place < 10; place++) {
            text += "O11" + (place - 1);
        }
        ShipFromItself x = shipOf(text);
        due("place(0, 2)", x.place(0, 2), NONE);
        for (int place = 1; place < 10; place++) {
            due("place(" + place + ", 2)", x.place(place, 2), place - 1);
        }
        ShipFromItself onFirst = shipOf("S001P11-00" + "P11000".repeat(8) + "P11-00");
        due("place(8, 2)", onFirst.place(8, 2), 0);
        due("place(9, 2)", onFirst.place(9, 2), NONE);
    }

    private static void placeTimber() {
        ShipFromItself x = shipOf("S001" + "P11-00".repeat(9) + "O11-");
        for (int place = 0; place < 9; place++) {
            due("place(" + place + ", 3)", x.place(place, 3), place);
        }
        due("place(9, 3)", x.place(9, 3), NONE);
        due("move(0, 9)", x.move(0, 9), 1);
        due("place(9, 3)", x.place(9, 3), 0);
        due("place(0, 3)", x.place(0, 3), NONE);
        due("move(8, 0)", x.move(8, 0), 1);
        due("place(0, 3)", x.place(0, 3), 8);
        due("place(8, 3)", x.place(8, 3), NONE);
    }

    private static void lastPlace() {
        for (int places = 0; places <= 10; places++) {
            ShipFromItself x = shipOf("S001" + "P11-00".repeat(places));
            for (int what = 0; what < 4; what++) {
                due("place(" + places + ", " + what + ")", x.place(places, what), UNKNOWN);
                due("timber(" + places + ", " + what + ")", x.timber(places, what), UNKNOWN);
                due("place(-1, " + what + ")", x.place(-1, what), UNKNOWN);
                due("timber(-1, " + what + ")", x.timber(-1, what), UNKNOWN);
            }
            if (places > 0) {
                due("place of the last", x.place(places - 1, 3), places - 1);
                due("timber of the last", x.timber(places - 1, 0), places - 1);
            }
        }
    }

    private static void timberWhere() {
        ShipFromItself x = shipOf("S999P11-00P11-09O11-" + "P11-00".repeat(7));
        due("timber(0, 0)", x.timber(0, 0), 0);
        due("timber(2, 0): it never was", x.timber(2, 0), LOST);
        due("timber(9, 0)", x.timber(9, 0), 9);
        x.take(9);
        due("timber(9, 0): TAKEN", x.timber(9, 0), LAID);
        x.watch();
        due("timber(1, 0): eaten", x.timber(1, 0), LOST);
        x.put(9, 1);
        due("timber(9, 0): PUT", x.timber(9, 0), 1);
    }

    private static void timberLong() {
        for (int length = 1; length <= 9; length++) {
            ShipFromItself x = shipOf("S001P" + length + "1-00O91-");
            due("timber(0, 1)", x.timber(0, 1), length);
            due("timber(1, 1): it never was", x.timber(1, 1), 0);
            x.take(0);
            due("timber(0, 1): LAID", x.timber(0, 1), length);
        }
    }

    private static void timberShip() {
        ShipFromItself x = shipOf("S099P11-00P11-10P11-29O11-");
        for (int ship = 0; ship < 3; ship++) {
            due("timber(" + ship + ", 2)", x.timber(ship, 2), ship);
        }
        due("timber(3, 2): it never was", x.timber(3, 2), NONE);
        x.watch();
        due("timber(2, 0)", x.timber(2, 0), LOST);
        due("timber(2, 2): LOST, of the same SHIP", x.timber(2, 2), 2);
        x.take(0);
        due("timber(0, 2): LAID, of the same SHIP", x.timber(0, 2), 0);
    }

    private static void timberWorms() {
        for (int worms = 0; worms < 10; worms++) {
            ShipFromItself x = shipOf("S999P11-0" + worms + "O11-");
            due("timber(0, 3)", x.timber(0, 3), worms);
            due("timber(1, 3): it never was", x.timber(1, 3), 0);
            x.watch();
            due("timber(0, 3) after a WATCH", x.timber(0, 3), worms == 0 ? 0 : worms + 1);
            due("timber(0, 0) after a WATCH", x.timber(0, 0), worms == 9 ? LOST : 0);
            due("timber(1, 3): it never was", x.timber(1, 3), 0);
        }
    }
}
