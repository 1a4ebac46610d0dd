/** Counts the answers that are not as due; each test ends by it. */
final class Check {
    private static int wrong = 0;
    private static int asked = 0;
    private static int sentences = 0;
    private static String sentence = "";

    private Check() {
    }

    static void due(String call, long got, long want) {
        asked++;
        if (got != want) {
            wrong++;
            if (wrong <= 40) {
                System.out.println(sentence + call + " answered " + got + ", due is " + want);
            }
        }
    }

    static void holds(String what, boolean so) {
        due(what, so ? 1 : 0, 1);
    }

    /** The test of one sentence of the document; it must ask something. */
    static void sentence(String words, Runnable test) {
        int askedBefore = asked;
        sentence = "\"" + words + "\": ";
        test.run();
        holds("something is asked", asked > askedBefore);
        sentences++;
        sentence = "";
    }

    static int wrong() {
        return wrong;
    }

    static void end() {
        String tested = sentences > 0 ? sentences + " sentences, " : "";
        System.out.println(tested + asked + " answers, " + wrong + " not as due");
        if (wrong != 0) {
            System.exit(1);
        }
    }

    /** Writes a text, a byte (0 to 255) a sign, eight at a time. */
    static void write(ShipFromItself x, String text) {
        for (int from = 0; from < text.length(); from += 8) {
            String part = text.substring(from, Math.min(text.length(), from + 8));
            long v = 0;
            for (int i = 0; i < part.length(); i++) {
                v = v << 8 | part.charAt(i);
            }
            x.write(part.length(), v);
        }
    }

    /** A new object whose SHIP is this text. */
    static ShipFromItself shipOf(String text) {
        ShipFromItself x = new ShipFromItself();
        write(x, text);
        due("ship() of " + text, x.ship(), x.count(1));
        due("bytes of " + text, x.count(0), text.length());
        return x;
    }
}
