import java.math.BigInteger;
import java.util.ArrayList;
import java.util.HashMap;
import java.util.List;
import java.util.Map;
import java.util.regex.Matcher;
import java.util.regex.Pattern;

/**
 * Long runs of calls, made by a fixed row of numbers, against a second writing of the document: one that tries all
 * there is (every set of torn TIMBERS, every row of MOVES, every WATCH) and keeps nothing but the words' own state.
 */
public final class ModelTest {
    private static final int SHIPS = 2500;
    /** Behind these some hundred more compare all: an object is used for 512 calls at most. */
    private static final int CALLS = 390;

    public static void main(String[] args) {
        for (int run = 0; run < SHIPS && Check.wrong() == 0; run++) {
            new Run(run).go();
        }
        for (int run = 0; run < 60000 && Check.wrong() == 0; run++) {
            faultOfSpoiltText(new Numbers(run * 7919L + 5));
        }
        Check.end();
    }

    private static void faultOfSpoiltText(Numbers numbers) {
        StringBuilder text = new StringBuilder(Texts.random(numbers, numbers.below(11)));
        int spoilt = numbers.below(3);
        for (int i = 0; i < spoilt; i++) {
            int at = numbers.below(text.length() + 1);
            String signs = "SPO-0123456789:/ps\u0000\u00ff\u0080";
            char sign = numbers.below(9) == 0 ? (char) numbers.below(256) : signs.charAt(numbers.below(signs.length()));
            switch (numbers.below(4)) {
                case 0: text.setLength(at); break;
                case 1: text.insert(at, sign); break;
                default:
                    if (at < text.length()) {
                        text.setCharAt(at, sign);
                    }
            }
        }
        text.setLength(Math.min(72, text.length()));
        ShipFromItself x = new ShipFromItself();
        Check.write(x, text.toString());
        int want = Texts.fault(text.toString());
        Check.due("fault() of " + text, x.fault(), want);
        Check.due("ship() of " + text, x.ship() == ShipFromItself.STATE ? 1 : 0, want == ShipFromItself.NONE ? 0 : 1);
    }

    /** A fixed row of numbers. */
    private static final class Numbers {
        private long state;

        Numbers(long seed) {
            state = seed * 0x9E3779B97F4A7C15L + 77;
        }

        int below(int bound) {
            state = state * 6364136223846793005L + 1442695040888963407L;
            return (int) ((state >>> 33) % bound);
        }
    }

    private static final class Texts {
        private static final Pattern SHIP = Pattern.compile("S[0-9](?:0[1-9]|[1-9][0-9])" + places(0), Pattern.DOTALL);

        private static String places(int from) {
            if (from == 10) {
                return "";
            }
            String under = from == 0 ? "-" : "[-0-" + (from - 1) + "]";
            return "(?:(?:P[1-9][0-9]" + under + "[0-2][0-9]|O[1-9][0-9]" + under + ")" + places(from + 1) + ")?";
        }

        static int fault(String text) {
            for (int length = 1; length <= text.length(); length++) {
                Matcher matcher = SHIP.matcher(text.substring(0, length));
                if (!matcher.matches() && !matcher.hitEnd()) {
                    return length - 1;
                }
            }
            return SHIP.matcher(text).matches() ? ShipFromItself.NONE : text.length();
        }

        static String random(Numbers numbers, int places) {
            StringBuilder text = new StringBuilder("S");
            text.append(numbers.below(3) == 0 ? numbers.below(10) : numbers.below(3));
            int hold = 1 + numbers.below(99);
            text.append(hold / 10).append(hold % 10);
            int longest = 1 + numbers.below(9);
            int openInTen = numbers.below(8);
            int restInTen = numbers.below(8);
            for (int place = 0; place < places; place++) {
                boolean open = numbers.below(10) < openInTen;
                text.append(open ? 'O' : 'P').append(1 + numbers.below(longest)).append(numbers.below(10));
                text.append(place > 0 && numbers.below(10) < restInTen ? (char) ('0' + numbers.below(place)) : '-');
                if (!open) {
                    text.append(numbers.below(3)).append(numbers.below(2) == 0 ? 0 : numbers.below(10));
                }
            }
            return text.toString();
        }
    }

    /** What changes, as the document tells it; never changed once it is made, but by its own maker. */
    private static final class State {
        final Map<Integer, Integer> inPlace = new HashMap<>();
        final List<Integer> laid = new ArrayList<>();
        final Map<Integer, Integer> length = new HashMap<>();
        final Map<Integer, Integer> worms = new HashMap<>();
        int water;
        boolean sunk;

        State copy() {
            State other = new State();
            other.inPlace.putAll(inPlace);
            other.laid.addAll(laid);
            other.length.putAll(length);
            other.worms.putAll(worms);
            other.water = water;
            other.sunk = sunk;
            return other;
        }

        int placeOf(int timber) {
            for (Map.Entry<Integer, Integer> one : inPlace.entrySet()) {
                if (one.getValue() == timber) {
                    return one.getKey();
                }
            }
            return -1;
        }
    }

    private static final class Model {
        final StringBuilder text = new StringBuilder();
        final List<String> places = new ArrayList<>();
        int pumps = 0;
        int hold = 1;
        State now = new State();
        final List<State> acts = new ArrayList<>();
        final Map<Integer, State> slots = new HashMap<>();

        int ship() {
            if (Texts.fault(text.toString()) != ShipFromItself.NONE) {
                return ShipFromItself.STATE;
            }
            pumps = text.charAt(1) - '0';
            hold = Integer.parseInt(text.substring(2, 4));
            places.clear();
            now = new State();
            acts.clear();
            slots.clear();
            Matcher matcher = Pattern.compile("P.....|O...").matcher(text.substring(4));
            while (matcher.find()) {
                String one = matcher.group();
                int number = places.size();
                places.add(one);
                if (one.charAt(0) == 'P') {
                    now.inPlace.put(number, number);
                    now.length.put(number, one.charAt(1) - '0');
                    now.worms.put(number, one.charAt(5) - '0');
                }
            }
            return places.size();
        }

        int size() {
            return places.size();
        }

        int lengthOf(int place) {
            return places.get(place).charAt(1) - '0';
        }

        int letsIn(int place) {
            return places.get(place).charAt(2) - '0';
        }

        int under(int place) {
            char r = places.get(place).charAt(3);
            return r == '-' ? ShipFromItself.NONE : r - '0';
        }

        int shipOf(int timber) {
            String one = places.get(timber);
            return one.charAt(0) == 'P' ? one.charAt(4) - '0' : ShipFromItself.NONE;
        }

        int leak(State s) {
            int sum = 0;
            for (int place = 0; place < size(); place++) {
                sum += s.inPlace.containsKey(place) ? 0 : letsIn(place);
            }
            return sum;
        }

        State taken(State s, int place) {
            if (!s.inPlace.containsKey(place)) {
                return null;
            }
            for (int other : s.inPlace.keySet()) {
                if (under(other) == place) {
                    return null;
                }
            }
            State then = s.copy();
            then.laid.add(then.inPlace.remove(place));
            return then;
        }

        State put(State s, int timber, int place) {
            boolean may = s.laid.contains(timber) && !s.inPlace.containsKey(place)
                && s.length.get(timber) >= lengthOf(place)
                && (under(place) == ShipFromItself.NONE || s.inPlace.containsKey(under(place)));
            if (!may) {
                return null;
            }
            State then = s.copy();
            then.laid.remove(Integer.valueOf(timber));
            then.inPlace.put(place, timber);
            then.length.put(timber, lengthOf(place));
            return then;
        }

        State moved(State s, int timber, int place) {
            int from = s.placeOf(timber);
            if (from == place) {
                return null;
            }
            State free = from < 0 ? s : taken(s, from);
            return free == null ? null : put(free, timber, place);
        }

        void comeDown(State s) {
            boolean more = true;
            while (more) {
                more = false;
                for (int place = size() - 1; place >= 0; place--) {
                    boolean falls = s.inPlace.containsKey(place) && under(place) != ShipFromItself.NONE
                        && !s.inPlace.containsKey(under(place));
                    if (falls) {
                        s.laid.add(s.inPlace.remove(place));
                        more = true;
                    }
                }
            }
        }

        State watched(State s) {
            State then = s.copy();
            then.water += leak(s);
            then.water -= pumps;
            then.water = then.water < 0 ? 0 : then.water;
            if (then.water > hold) {
                then.sunk = true;
                return then;
            }
            for (int place : s.inPlace.keySet()) {
                int timber = s.inPlace.get(place);
                int worms = s.worms.get(timber);
                if (worms >= 1) {
                    then.worms.put(timber, worms + 1);
                    if (worms + 1 == 10) {
                        then.inPlace.remove(place);
                    }
                }
            }
            comeDown(then);
            return then;
        }

        int floats(State s) {
            State then = s;
            int watches = 0;
            while (watches < 99 && !then.sunk) {
                then = watched(then);
                watches += then.sunk ? 0 : 1;
            }
            return watches;
        }

        int harm(int place) {
            State then = now.copy();
            then.inPlace.remove(place);
            comeDown(then);
            return leak(then);
        }

        /** All rows of so many MOVES, as they come, with what is behind them. */
        void rows(State s, int moves, List<Integer> row, List<List<Integer>> rows, List<State> ends) {
            if (moves == 0) {
                rows.add(new ArrayList<>(row));
                ends.add(s);
                return;
            }
            for (int timber = 0; timber < size(); timber++) {
                for (int place = 0; place < size(); place++) {
                    State then = moved(s, timber, place);
                    if (then != null) {
                        row.add(10 * timber + place);
                        rows(then, moves - 1, row, rows, ends);
                        row.remove(row.size() - 1);
                    }
                }
            }
        }

        List<Integer> best(int k) {
            List<Integer> best = null;
            int least = Integer.MAX_VALUE;
            for (int moves = 0; moves <= k; moves++) {
                List<List<Integer>> rows = new ArrayList<>();
                List<State> ends = new ArrayList<>();
                rows(now, moves, new ArrayList<>(), rows, ends);
                for (int i = 0; i < rows.size(); i++) {
                    int leak = leak(ends.get(i));
                    boolean first = best != null && leak == least && best.size() == moves && isAhead(rows.get(i), best);
                    if (leak < least || first) {
                        least = leak;
                        best = rows.get(i);
                    }
                }
            }
            return best;
        }

        List<Integer> port(int n) {
            for (int moves = 0; moves <= 2; moves++) {
                List<List<Integer>> rows = new ArrayList<>();
                List<State> ends = new ArrayList<>();
                rows(now, moves, new ArrayList<>(), rows, ends);
                List<Integer> found = null;
                for (int i = 0; i < rows.size(); i++) {
                    if ((found == null || isAhead(rows.get(i), found)) && floats(ends.get(i)) >= n) {
                        found = rows.get(i);
                    }
                }
                if (found != null) {
                    return found;
                }
            }
            return null;
        }

        private static boolean isAhead(List<Integer> one, List<Integer> other) {
            for (int i = 0; i < one.size(); i++) {
                if (!one.get(i).equals(other.get(i))) {
                    return one.get(i) < other.get(i);
                }
            }
            return false;
        }

        int openBits(State s) {
            int bits = 0;
            for (int place = 0; place < size(); place++) {
                bits += s.inPlace.containsKey(place) ? 0 : 1 << place;
            }
            return bits;
        }

        int log(State s, int k, int places) {
            if (k == 0) {
                return openBits(s) == places ? 1 : 0;
            }
            int sum = 0;
            for (int timber = 0; timber < size(); timber++) {
                for (int place = 0; place < size(); place++) {
                    State then = moved(s, timber, place);
                    sum += then == null ? 0 : log(then, k - 1, places);
                }
            }
            return sum;
        }

        long storm(int x, int y, boolean upper) {
            List<Integer> filled = new ArrayList<>(now.inPlace.keySet());
            BigInteger above = BigInteger.ZERO;
            for (int torn = 0; torn < 1 << filled.size(); torn++) {
                int leak = leak(now);
                BigInteger ways = BigInteger.ONE;
                for (int i = 0; i < filled.size(); i++) {
                    boolean out = (torn >> i & 1) == 1;
                    leak += out ? letsIn(filled.get(i)) : 0;
                    ways = ways.multiply(BigInteger.valueOf(out ? x : 10 - x));
                }
                above = leak <= y ? above.add(ways) : above;
            }
            return told(above, BigInteger.TEN.pow(filled.size()), upper);
        }

        long share(int ship, boolean upper) {
            int above = 0;
            int below = 0;
            for (int timber : now.inPlace.values()) {
                below += now.length.get(timber);
                above += shipOf(timber) == ship ? now.length.get(timber) : 0;
            }
            return told(BigInteger.valueOf(above), BigInteger.valueOf(Math.max(1, below)), upper);
        }

        private static long told(BigInteger above, BigInteger below, boolean upper) {
            BigInteger common = above.gcd(below);
            return (upper ? above : below).divide(common).longValueExact();
        }

        void act(State then) {
            acts.add(now);
            if (acts.size() > 24) {
                acts.remove(0);
            }
            now = then;
        }
    }

    /** One object's calls and the model's. */
    private static final class Run {
        private static final int UNKNOWN = ShipFromItself.UNKNOWN;
        private static final int OUTSIDE = ShipFromItself.OUTSIDE;
        private static final int STATE = ShipFromItself.STATE;
        private static final int NONE = ShipFromItself.NONE;

        private final int number;
        private final Numbers numbers;
        private final ShipFromItself x = new ShipFromItself();
        private final Model m = new Model();
        private int calls = 0;

        Run(int number) {
            this.number = number;
            numbers = new Numbers(number);
        }

        void go() {
            setShip(2 + numbers.below(9));
            boolean compared = false;
            while (calls < CALLS && Check.wrong() == 0) {
                callOne();
                if (calls > CALLS / 2 && !compared) {
                    compareAll();
                    compared = true;
                }
            }
            compareAll();
        }

        private void due(String call, long got, long want) {
            calls++;
            Check.due("run " + number + " of " + m.text + ": " + call, got, want);
        }

        private void setShip(int places) {
            String text = Texts.random(numbers, places);
            due("wipe()", x.wipe(), m.text.length());
            m.text.setLength(0);
            m.text.append(text);
            Check.write(x, text);
            calls += 9;
            due("ship()", x.ship(), m.ship());
        }

        /** Mostly one of the PLACES, now and then not. */
        private int somePlace() {
            return numbers.below(20) == 0 ? numbers.below(14) - 2 : numbers.below(Math.max(1, m.size()));
        }

        private boolean isPlace(int i) {
            return i >= 0 && i < m.size();
        }

        private void callOne() {
            int timber = somePlace();
            int place = somePlace();
            int kind = numbers.below(100);
            if (kind < 12) {
                due("take(" + place + ")", x.take(place), take(place));
            } else if (kind < 24) {
                due("put(" + timber + ", " + place + ")", x.put(timber, place), put(timber, place));
            } else if (kind < 44) {
                due("move(" + timber + ", " + place + ")", x.move(timber, place), move(timber, place));
            } else if (kind < 52) {
                due("watch()", x.watch(), watch());
            } else if (kind < 62) {
                due("back()", x.back(), back());
            } else if (kind < 66) {
                int slot = numbers.below(4) - 1;
                due("keep(" + slot + ")", x.keep(slot), keep(slot));
            } else if (kind < 70) {
                int slot = numbers.below(4) - 1;
                due("again(" + slot + ")", x.again(slot), again(slot));
            } else if (kind < 71) {
                setShip(numbers.below(11));
            } else {
                ask(kind, timber, place);
            }
        }

        private void ask(int kind, int timber, int place) {
            int k = numbers.below(20) == 0 ? numbers.below(7) - 2 : numbers.below(3);
            if (kind < 76) {
                due("harm(" + place + ")", x.harm(place), harm(place));
            } else if (kind < 82) {
                due("may(" + timber + ", " + place + ")", x.may(timber, place), may(timber, place));
            } else if (kind < 86) {
                askBest(k);
            } else if (kind < 89) {
                askPort(numbers.below(3) == 0 ? numbers.below(104) - 2 : 1 + numbers.below(12));
            } else if (kind < 93) {
                int tenths = numbers.below(13) - 1;
                int y = numbers.below(3) == 0 ? numbers.below(104) - 2 : numbers.below(50);
                boolean outside = tenths < 0 || tenths > 10 || y < 0 || y > 99;
                for (int upper = 0; upper < 2; upper++) {
                    due("storm(" + tenths + ", " + y + ", " + upper + ")", x.storm(tenths, y, upper == 1),
                        outside ? OUTSIDE : m.storm(tenths, y, upper == 1));
                }
            } else if (kind < 96) {
                int ship = numbers.below(5) - 1;
                for (int upper = 0; upper < 2; upper++) {
                    due("share(" + ship + ", " + upper + ")", x.share(ship, upper == 1),
                        ship < 0 || ship > 2 ? UNKNOWN : m.share(ship, upper == 1));
                }
            } else {
                askLog(numbers.below(20) == 0 ? numbers.below(7) - 2 : numbers.below(4));
            }
        }

        private void askBest(int k) {
            List<Integer> row = k < 0 || k > 2 || m.now.sunk ? null : m.best(k);
            int refusal = k < 0 || k > 2 ? OUTSIDE : STATE;
            int leak = refusal;
            if (row != null) {
                State end = m.now;
                for (int told : row) {
                    end = m.moved(end, told / 10, told % 10);
                }
                leak = m.leak(end);
            }
            due("best(" + k + ")", x.best(k), leak);
            for (int i = -1; i < 4; i++) {
                due("bestAt(" + k + ", " + i + ")", x.bestAt(k, i), at(row, i, refusal));
            }
        }

        private void askPort(int n) {
            boolean refused = n < 1 || n > 99 || m.now.sunk;
            int refusal = n < 1 || n > 99 ? OUTSIDE : STATE;
            List<Integer> row = refused ? null : m.port(n);
            due("port(" + n + ")", x.port(n), refused ? refusal : row == null ? NONE : row.size());
            for (int i = -1; i < 4; i++) {
                due("portAt(" + n + ", " + i + ")", x.portAt(n, i), at(row, i, refused ? refusal : NONE));
            }
        }

        private static int at(List<Integer> row, int i, int ifNoRow) {
            if (row == null) {
                return ifNoRow;
            }
            return i >= 0 && i < row.size() ? row.get(i) : NONE;
        }

        /** Mostly a set of OPEN PLACES that some row reaches. */
        private void askLog(int k) {
            State end = m.now;
            for (int i = 0; i < k && numbers.below(6) != 0; i++) {
                for (int tried = 0; tried < 200; tried++) {
                    State then = m.size() == 0 ? null : m.moved(end, numbers.below(m.size()), numbers.below(m.size()));
                    if (then != null) {
                        end = then;
                        break;
                    }
                }
            }
            int places = numbers.below(12) == 0 ? numbers.below(1100) - 20 : m.openBits(end);
            boolean outside = k < 0 || k > 3 || places < 0 || places >= 1 << m.size();
            int heavy = k == 3 && m.now.laid.size() + m.now.inPlace.size() > 8 ? 2 : k;
            int want = outside ? OUTSIDE : m.now.sunk ? STATE : m.log(m.now, heavy, places);
            due("log(" + heavy + ", " + places + ")", x.log(outside ? k : heavy, places), want);
        }

        private int take(int place) {
            if (!isPlace(place)) {
                return UNKNOWN;
            }
            State then = m.now.sunk ? null : m.taken(m.now, place);
            if (then == null) {
                return STATE;
            }
            int timber = m.now.inPlace.get(place);
            m.act(then);
            return timber;
        }

        private int put(int timber, int place) {
            if (!isPlace(timber) || !isPlace(place)) {
                return UNKNOWN;
            }
            return acted(m.put(m.now, timber, place), timber);
        }

        private int move(int timber, int place) {
            if (!isPlace(timber) || !isPlace(place)) {
                return UNKNOWN;
            }
            return acted(m.moved(m.now, timber, place), timber);
        }

        private int acted(State then, int timber) {
            if (m.now.sunk || then == null) {
                return STATE;
            }
            m.act(then);
            return then.length.get(timber);
        }

        private int may(int timber, int place) {
            if (!isPlace(timber) || !isPlace(place)) {
                return UNKNOWN;
            }
            return !m.now.sunk && m.moved(m.now, timber, place) != null ? 1 : 0;
        }

        private int watch() {
            if (m.now.sunk) {
                return STATE;
            }
            m.act(m.watched(m.now));
            return m.now.water;
        }

        private int back() {
            if (m.acts.isEmpty()) {
                return STATE;
            }
            m.now = m.acts.remove(m.acts.size() - 1);
            return m.acts.size();
        }

        private int harm(int place) {
            if (!isPlace(place)) {
                return UNKNOWN;
            }
            return m.now.inPlace.containsKey(place) ? m.harm(place) : STATE;
        }

        private int keep(int slot) {
            if (slot < 0 || slot > 1) {
                return UNKNOWN;
            }
            m.slots.put(slot, m.now);
            return m.now.water;
        }

        private int again(int slot) {
            if (slot < 0 || slot > 1) {
                return UNKNOWN;
            }
            if (!m.slots.containsKey(slot)) {
                return STATE;
            }
            m.now = m.slots.get(slot);
            m.acts.clear();
            return m.now.water;
        }

        private void compareAll() {
            State s = m.now;
            for (int i = 0; i < m.size(); i++) {
                int at = s.placeOf(i) >= 0 ? s.placeOf(i) : s.laid.contains(i) ? 100 : 200;
                int[] timber = {at, s.length.getOrDefault(i, 0), m.shipOf(i), s.worms.getOrDefault(i, 0)};
                int[] place = {m.lengthOf(i), m.letsIn(i), m.under(i), s.inPlace.getOrDefault(i, NONE)};
                for (int what = 0; what < 4; what++) {
                    due("timber(" + i + ", " + what + ")", x.timber(i, what), timber[what]);
                    due("place(" + i + ", " + what + ")", x.place(i, what), place[what]);
                }
            }
            due("leak()", x.leak(), m.leak(s));
            due("floats()", x.floats(), m.floats(s));
            int ever = s.length.size();
            int lost = m.size() - ever + (ever - s.inPlace.size() - s.laid.size());
            int[] counts = {m.text.length(), m.size(), m.size() - s.inPlace.size(), s.laid.size(), lost, s.water,
                s.sunk ? 1 : 0, m.pumps, m.hold, m.acts.size()};
            for (int what = 0; what < counts.length; what++) {
                due("count(" + what + ")", x.count(what), counts[what]);
            }
        }
    }
}
