/** All that an object tells of itself, so that two can be compared; of eight PLACES by some 410 calls at most. */
final class Told {
    private Told() {
    }

    /** What can be asked without changing it. */
    static String now(ShipFromItself x) {
        StringBuilder told = new StringBuilder();
        told.append("fault ").append(x.fault()).append("\nleak ").append(x.leak());
        told.append("\nfloats ").append(x.floats()).append("\ncount");
        for (int what = 0; what < 10; what++) {
            told.append(' ').append(x.count(what));
        }
        places(x, told);
        told.append("\nbest ").append(x.best(2)).append(' ').append(x.bestAt(2, 0)).append(' ').append(x.bestAt(2, 1));
        told.append("\nport ").append(x.port(1)).append(' ').append(x.port(99)).append(' ').append(x.portAt(99, 0));
        told.append("\nstorm ").append(x.storm(3, 9, true)).append(' ').append(x.storm(3, 9, false));
        told.append("\nlog ").append(x.log(1, 0)).append("\nshare");
        for (int ship = 0; ship < 3; ship++) {
            told.append(' ').append(x.share(ship, true)).append('/').append(x.share(ship, false));
        }
        return told.append('\n').toString();
    }

    private static void places(ShipFromItself x, StringBuilder told) {
        int places = x.count(1);
        for (int i = 0; i < places; i++) {
            told.append("\nplace ").append(i).append(':');
            for (int what = 0; what < 4; what++) {
                told.append(' ').append(x.place(i, what)).append(' ').append(x.timber(i, what));
            }
            told.append(" harm ").append(x.harm(i)).append(" may");
            for (int place = 0; place < places; place++) {
                told.append(' ').append(x.may(i, place));
            }
        }
    }

    /** What later calls show: ACTS taken back one after another, gone on from each slot, THE TEXT made THE SHIP. */
    static String later(ShipFromItself x) {
        StringBuilder told = new StringBuilder();
        int left = x.back();
        for (int i = 0; i < 24 && left >= 0; i++) {
            told.append("back ").append(left).append(" water ").append(x.count(5)).append('\n');
            // An object is used for 512 calls at most: so not all is asked behind each of 24 ACTS.
            if (left < 3 || left > 22) {
                told.append(load(x));
            }
            left = x.back();
        }
        told.append("back ").append(left).append('\n');
        for (int slot = 0; slot < 2; slot++) {
            told.append("again ").append(x.again(slot)).append(", ").append(load(x));
        }
        told.append("ship ").append(x.ship()).append(", ").append(load(x));
        told.append("write ").append(x.write(1, 'S')).append(" fault ").append(x.fault());
        told.append(" wipe ").append(x.wipe()).append('\n');
        return told.toString();
    }

    private static String load(ShipFromItself x) {
        StringBuilder told = new StringBuilder();
        told.append("water ").append(x.count(5)).append(" sunk ").append(x.count(6));
        told.append(" acts ").append(x.count(9));
        int places = x.count(1);
        for (int timber = 0; timber < places; timber++) {
            told.append(", ").append(x.timber(timber, 0)).append(' ').append(x.timber(timber, 1));
            told.append(' ').append(x.timber(timber, 3));
        }
        return told.append('\n').toString();
    }

    /** Two objects that should be as one; both are changed by it. */
    static void same(String what, ShipFromItself x, ShipFromItself twin) {
        compare(what, now(x), now(twin));
        compare(what + ", later", later(x), later(twin));
    }

    private static void compare(String what, String got, String want) {
        String[] gotLines = got.split("\n");
        String[] wantLines = want.split("\n");
        for (int i = 0; i < wantLines.length; i++) {
            String line = i < gotLines.length ? gotLines[i] : "";
            Check.holds(what + ": \"" + line + "\" and not \"" + wantLines[i] + "\"", line.equals(wantLines[i]));
        }
    }
}
