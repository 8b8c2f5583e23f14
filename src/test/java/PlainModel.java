import java.math.BigInteger;
import java.util.ArrayList;
import java.util.Arrays;
import java.util.List;
import java.util.function.IntPredicate;
import java.util.regex.Matcher;
import java.util.regex.Pattern;

/**
 * The document once more, as literally as can be and by other means than the class:
 * kinds are classes, findings are exceptions, a day is told by whole lists.
 */
final class PlainModel {
    /** A finding on its way out of an act. */
    static final class Finding extends RuntimeException {
        private static final long serialVersionUID = 1;
        final int number;

        Finding(int number) {
            super(null, null, false, false);
            this.number = number;
        }
    }

    static class Piece {
        int place;
        int length = 10;
        int knots;
        int age;
        int came;

        int pulls(State w) {
            return length;
        }

        int lasts() {
            return 0;
        }

        int gives() {
            return 0;
        }
    }

    static class Ticking extends Piece {
        @Override
        int pulls(State w) {
            return super.pulls(w) + age;
        }

        @Override
        int lasts() {
            return 30;
        }
    }

    static final class Fuse extends Ticking {
        @Override
        int pulls(State w) {
            return 2 * super.pulls(w);
        }

        @Override
        int lasts() {
            return super.lasts() / 3;
        }
    }

    static class Birthday extends Piece {
        @Override
        int pulls(State w) {
            return super.pulls(w) * (w.day % 7 == 0 ? 3 : 1);
        }
    }

    static class Row extends Birthday {
        @Override
        int pulls(State w) {
            return Math.max(0, super.pulls(w) - knots);
        }

        @Override
        int gives() {
            return 2;
        }
    }

    static final class Letter extends Row {
        @Override
        int pulls(State w) {
            return super.pulls(w) + 5 * Math.abs(place - w.ball);
        }

        @Override
        int gives() {
            return super.gives() + 1;
        }
    }

    static final class Hers extends Piece {
        @Override
        int pulls(State w) {
            return super.pulls(w) / 2;
        }

        @Override
        int gives() {
            return super.gives() + 5;
        }
    }

    private static final List<Class<? extends Piece>> KINDS = List.of(
        Piece.class, Ticking.class, Birthday.class, Row.class, Letter.class, Hers.class, Fuse.class);
    private static final List<String> KIND_WORDS =
        List.of("piece", "ticking", "birthday", "row", "letter", "hers", "fuse");

    static Piece ofKind(int kind) {
        switch (kind) {
            case 0: return new Piece();
            case 1: return new Ticking();
            case 2: return new Birthday();
            case 3: return new Row();
            case 4: return new Letter();
            case 5: return new Hers();
            default: return new Fuse();
        }
    }

    static Piece as(Piece p, int kind) {
        Piece q = ofKind(kind);
        q.place = p.place;
        q.length = p.length;
        q.knots = p.knots;
        q.age = p.age;
        q.came = p.came;
        return q;
    }

    static int kindOf(Piece p) {
        return KINDS.indexOf(p.getClass());
    }

    /** What an image keeps. */
    static final class State {
        int ball = 5;
        int drag = 10;
        int day;
        int off;
        int z = 1;
        List<Piece> pieces = new ArrayList<>();
        Integer[] spots = new Integer[10];
        int loosened;

        State copy() {
            State c = new State();
            c.ball = ball;
            c.drag = drag;
            c.day = day;
            c.off = off;
            c.z = z;
            for (Piece p : pieces) {
                c.pieces.add(PlainModel.as(p, kindOf(p)));
            }
            c.spots = spots.clone();
            c.loosened = loosened;
            return c;
        }

        int deep(int i) {
            return pieces.subList(i + 1, pieces.size()).stream().mapToInt(p -> p.length).sum();
        }

        int felt(int i) {
            if ((loosened & 1 << i) != 0) {
                return 0;
            }
            Piece p = pieces.get(i);
            int tight = p.knots - p.gives();
            int felt = p.pulls(this) - deep(i) / 10 - (tight > 0 ? tight : 0);
            return felt < 0 ? 0 : felt;
        }

        int feltWhere(IntPredicate place) {
            int sum = 0;
            for (int i = 0; i < pieces.size(); i++) {
                if (place.test(pieces.get(i).place)) {
                    sum += felt(i);
                }
            }
            return sum;
        }

        int up() {
            return feltWhere(place -> place > ball);
        }

        int down() {
            return feltWhere(place -> place < ball);
        }

        int longAll() {
            return pieces.stream().mapToInt(p -> p.length).sum();
        }

        State aDay() {
            int step = up() > down() + drag ? 1 : down() > up() + drag ? -1 : 0;
            ball += step;
            for (Piece p : pieces) {
                if (step != 0 && p.place == ball) {
                    p.came = Math.min(9999, p.came + 1);
                    p.knots = Math.min(9, p.knots + 1);
                }
                p.age = Math.min(9999, p.age + 1);
            }
            for (int i = 0; i < pieces.size(); i++) {
                Piece p = pieces.get(i);
                if (p.lasts() > 0 && p.age >= p.lasts()) {
                    p.age = 0;
                    for (Piece q : pieces.subList(i + 1, pieces.size())) {
                        q.length = Math.max(1, q.length / 2);
                    }
                    off = Math.min(99999, off + 1);
                    break;
                }
            }
            day = Math.min(99999, day + 1);
            return this;
        }

        State behind(int n) {
            State c = copy();
            for (int i = 0; i < n; i++) {
                c.aDay();
            }
            return c;
        }

        State with(int piece, int what, int v) {
            State c = copy();
            c.become(piece, what, v);
            return c;
        }

        int told(int piece, int what) {
            Piece p = pieces.get(piece);
            int[] told = {kindOf(p), p.place, p.length, p.knots, p.age, p.came,
                p.pulls(this), p.lasts(), deep(piece), felt(piece)};
            return told[what];
        }

        void become(int piece, int what, int v) {
            Piece p = pieces.get(piece);
            switch (what) {
                case 0: pieces.set(piece, PlainModel.as(p, v)); break;
                case 1: p.place = v; break;
                case 2: p.length = v; break;
                case 3: p.knots = v; break;
                case 4: p.age = v; break;
                default: p.came = v; break;
            }
        }

        int places() {
            int set = 0;
            for (Piece p : pieces) {
                set |= 1 << p.place;
            }
            return set;
        }

        int draw() {
            z = (int) (z * 1103515245L + 12345L);
            return z >>> 8;
        }
    }

    State w = new State();
    private State image;
    private String tape = "";
    private final long[][] sheets = new long[4][];
    private final int[] bits = new int[4];
    private final int[] told = new int[7];

    long call(String act, int... a) {
        try {
            return answer(act, a);
        } catch (Finding f) {
            told[Due.BEYOND - f.number]++;
            return f.number;
        }
    }

    private static void need(boolean so, int finding) {
        if (!so) {
            throw new Finding(finding);
        }
    }

    private static void within(int v, int least, int most) {
        need(least <= v && v <= most, Due.BEYOND);
    }

    private static void place(int v) {
        within(v, 0, 11);
    }

    private void piece(int v) {
        within(v, 0, w.pieces.size() - 1);
    }

    private void sheetThere(int s) {
        within(s, 0, 3);
        need(sheets[s] != null, Due.MISSING);
    }

    private long answer(String act, int[] a) {
        switch (act) {
            case "ball": case "drag": case "wind": case "of": case "change": case "lend": case "felt":
                return ballsAct(act, a);
            case "go": case "now": case "ahead": case "where": case "when": case "comes": case "off":
                return daysAct(act, a);
            case "unwind": case "had": case "drawTo": case "longFor": case "kindFor": case "dragFor":
            case "loosen": case "fits": case "kinds":
                return soughtAct(act, a);
            case "parcels": case "odds": case "seed": case "feed": case "wipe": case "text":
                return parcelsAct(act, a);
            case "hold": case "as": case "sheet": case "write": case "copy": case "load": case "judge":
                return sheetsAct(act, a);
            default:
                return imagesAct(act, a);
        }
    }

    private long ballsAct(String act, int[] a) {
        long was;
        switch (act) {
            case "ball":
                place(a[0]);
                was = w.ball;
                w.ball = a[0];
                return was;
            case "drag":
                within(a[0], 0, 99);
                was = w.drag;
                w.drag = a[0];
                return was;
            case "wind":
                within(a[0], 0, 6);
                place(a[1]);
                need(w.pieces.size() < 8, Due.FULL);
                Piece p = ofKind(a[0]);
                p.place = a[1];
                w.pieces.add(p);
                return w.pieces.size() - 1;
            case "of":
                piece(a[0]);
                within(a[1], 0, 9);
                return w.told(a[0], a[1]);
            case "change":
                piece(a[0]);
                within(a[1], 0, 5);
                within(a[2], a[1] == 2 ? 1 : 0, new int[] {6, 11, 99, 9, 9999, 9999}[a[1]]);
                was = w.told(a[0], a[1]);
                w.become(a[0], a[1], a[2]);
                return was;
            case "lend":
                within(a[0], 1, 99);
                need(!w.pieces.isEmpty(), Due.STATE);
                return lent(a[0]);
            default:
                place(a[0]);
                return w.feltWhere(place -> place == a[0]);
        }
    }

    private long lent(int n) {
        int last = w.pieces.size() - 1;
        Piece p = w.pieces.get(last);
        int was = p.length;
        p.length -= n;
        if (p.length <= 0) {
            w.pieces.remove(last);
            for (int i = 0; i < 10; i++) {
                if (w.spots[i] != null && w.spots[i] == last) {
                    w.spots[i] = null;
                }
            }
        }
        return was;
    }

    private long daysAct(String act, int[] a) {
        switch (act) {
            case "go":
                within(a[0], 1, 60);
                need(w.day + a[0] <= 99999, Due.STATE);
                w = w.behind(a[0]);
                return w.ball;
            case "now":
                within(a[0], 0, 7);
                return new int[] {w.day, w.ball, w.up(), w.down(), w.longAll(), w.off, w.places(), feltMost()}[a[0]];
            case "ahead":
                piece(a[0]);
                need(List.of(2, 3, 4, 5, 9).contains(a[1]), Due.BEYOND);
                within(a[2], 0, 100);
                return w.behind(a[2]).told(a[0], a[1]);
            case "where":
                within(a[0], 0, 100);
                return w.behind(a[0]).ball;
            case "when":
                place(a[0]);
                return firstDay(0, later -> later.ball == a[0]);
            case "comes":
                piece(a[0]);
                return firstDay(1, later -> later.pieces.get(a[0]).came > w.pieces.get(a[0]).came);
            default:
                return firstDay(1, later -> later.off > w.off);
        }
    }

    private interface Seen {
        boolean in(State later);
    }

    private long firstDay(int from, Seen seen) {
        State later = w.behind(from);
        for (int days = from; days <= 200; days++) {
            if (seen.in(later)) {
                return days;
            }
            later.aDay();
        }
        throw new Finding(Due.NONE);
    }

    private int feltMost() {
        int best = -1;
        for (int i = w.pieces.size() - 1; i >= 0; i--) {
            if (best < 0 || w.felt(i) >= w.felt(best)) {
                best = i;
            }
        }
        return best;
    }

    private long soughtAct(String act, int[] a) {
        switch (act) {
            case "unwind":
                need(a[0] >= 0 && a[0] < 1 << w.pieces.size(), Due.BEYOND);
                return a[0] == 0 ? 0 : w.deep(Integer.numberOfTrailingZeros(a[0]) - 1);
            case "had":
                within(a[0], 0, 999);
                return had(a[0]);
            case "drawTo":
                piece(a[0]);
                place(a[1]);
                within(a[2], 0, 40);
                return drawTo(a[0], a[1], a[2]);
            case "longFor":
                piece(a[0]);
                place(a[1]);
                within(a[2], 0, 40);
                for (int v = 1; v <= 99; v++) {
                    if (w.with(a[0], 2, v).behind(a[2]).ball == a[1]) {
                        return v;
                    }
                }
                throw new Finding(Due.NONE);
            case "kindFor":
                piece(a[0]);
                within(a[1], 0, 40);
                return kindFor(a[0], a[1]);
            case "dragFor":
                place(a[0]);
                within(a[1], 0, 40);
                return dragFor(a[0], a[1]);
            case "loosen":
                place(a[0]);
                within(a[1], 0, 20);
                return loosen(a[0], a[1]);
            default:
                sheetThere(a[0]);
                piece(a[1]);
                return act.equals("fits") ? ways(a[0], a[1], 1, 12) : ways(a[0], a[1], 0, 7);
        }
    }

    private long had(int v) {
        int many = 0;
        int left = v;
        for (int i = w.pieces.size() - 1; i >= 0; i--) {
            left -= w.pieces.get(i).length;
            if (left < 0) {
                return many;
            }
            many++;
        }
        return many;
    }

    private long drawTo(int piece, int place, int n) {
        int[] off = new int[12];
        for (int v = 0; v < 12; v++) {
            off[v] = Math.abs(w.with(piece, 1, v).behind(n).ball - place);
        }
        int least = Arrays.stream(off).min().getAsInt();
        int v = 0;
        while (off[v] != least) {
            v++;
        }
        return v;
    }

    private long kindFor(int piece, int n) {
        int[] came = new int[7];
        for (int v = 0; v < 7; v++) {
            came[v] = w.with(piece, 0, v).behind(n).pieces.get(piece).came;
        }
        int most = Arrays.stream(came).max().getAsInt();
        int v = 0;
        while (came[v] != most) {
            v++;
        }
        return v;
    }

    private long dragFor(int place, int n) {
        int best = -1;
        for (int v = 0; v <= 99; v++) {
            State c = w.copy();
            c.drag = v;
            if (c.behind(n).ball == place) {
                best = v;
            }
        }
        need(best >= 0, Due.NONE);
        return best;
    }

    private long loosen(int place, int n) {
        int best = -1;
        for (int set = 0; set < 1 << w.pieces.size(); set++) {
            State c = w.copy();
            c.loosened = set;
            boolean fewer = best < 0 || Integer.bitCount(set) < Integer.bitCount(best);
            if (fewer && c.behind(n).ball == place) {
                best = set;
            }
        }
        need(best >= 0, Due.NONE);
        return best;
    }

    private long ways(int s, int piece, int what, int values) {
        int set = 0;
        for (int v = 0; v < values; v++) {
            boolean fits = true;
            for (int i = 0; i < sheets[s].length; i++) {
                long told = sheets[s][i];
                fits &= told == -1 || w.with(piece, what, v).behind(i).ball == told;
            }
            set |= fits ? 1 << v : 0;
        }
        return set;
    }

    private long parcelsAct(String act, int[] a) {
        switch (act) {
            case "parcels":
                within(a[0], 1, 20);
                need(w.day + a[0] <= 99999, Due.STATE);
                for (int i = 0; i < a[0]; i++) {
                    int first = w.draw();
                    int second = w.draw();
                    if (first % 8 < w.pieces.size()) {
                        w.become(first % 8, 1, second % 12);
                    }
                    w.aDay();
                }
                return w.ball;
            case "odds":
                within(a[0], 0, 17);
                within(a[1], 0, 1);
                BigInteger above = BigInteger.valueOf(Integer.bitCount(w.places())).pow(a[0]);
                BigInteger below = BigInteger.valueOf(12).pow(a[0]);
                BigInteger common = above.gcd(below);
                return (a[1] == 0 ? above : below).divide(common).longValueExact();
            case "seed":
                int z = w.z;
                w.z = a[0];
                return z;
            case "feed":
                within(a[1], 1, 4);
                need(tape.length() + a[1] <= 120, Due.FULL);
                for (int i = a[1]; i > 0; i--) {
                    tape += (char) (a[0] >> 8 * (i - 1) & 255);
                }
                return tape.length();
            case "wipe":
                int had = tape.length();
                tape = "";
                return had;
            default:
                String text = tape;
                tape = "";
                return new Text(text).read();
        }
    }

    private static final Pattern TOKEN = Pattern.compile(" *([a-z]+|[0-9]+|;|[^ ]|$)", Pattern.DOTALL);

    /** Tokens first, then the items, then what they tell. */
    private final class Text {
        final List<String> tokens = new ArrayList<>();
        final List<Integer> starts = new ArrayList<>();
        final State c = w.copy();
        int at;

        Text(String text) {
            Matcher m = TOKEN.matcher(text);
            while (m.lookingAt()) {
                tokens.add(m.group(1));
                starts.add(m.start(1));
                if (m.group(1).isEmpty()) {
                    break;
                }
                m.region(m.end(), text.length());
            }
        }

        long read() {
            try {
                int items = 0;
                do {
                    item();
                    items++;
                } while (took(";"));
                if (!tokens.get(at).isEmpty()) {
                    fault();
                }
                w = c;
                return items;
            } catch (IllegalStateException fault) {
                return -1 - starts.get(at);
            }
        }

        void fault() {
            throw new IllegalStateException();
        }

        boolean took(String token) {
            boolean so = tokens.get(at).equals(token);
            at += so ? 1 : 0;
            return so;
        }

        int number(int least, int most) {
            String t = tokens.get(at);
            if (!t.matches("[0-9]+")) {
                fault();
            }
            BigInteger v = new BigInteger(t);
            if (v.compareTo(BigInteger.valueOf(least)) < 0 || v.compareTo(BigInteger.valueOf(most)) > 0) {
                fault();
            }
            at++;
            return v.intValueExact();
        }

        void item() {
            if (took("ball")) {
                c.ball = number(0, 11);
            } else if (took("drag")) {
                c.drag = number(0, 99);
            } else {
                int kind = KIND_WORDS.indexOf(tokens.get(at));
                if (kind < 0 || c.pieces.size() == 8) {
                    fault();
                }
                at++;
                Piece p = ofKind(kind);
                c.pieces.add(p);
                p.place = took("to") ? number(0, 11) : 0;
                p.length = took("long") ? number(1, 99) : 10;
                p.knots = took("knots") ? number(0, 9) : 0;
            }
        }
    }

    private long sheetsAct(String act, int[] a) {
        switch (act) {
            case "hold":
                within(a[0], 0, 9);
                within(a[1], -1, w.pieces.size() - 1);
                w.spots[a[0]] = a[1] == -1 ? null : a[1];
                return 1;
            case "as":
                within(a[0], 0, 9);
                within(a[1], 0, 6);
                need(w.spots[a[0]] != null, Due.MISSING);
                need(KINDS.get(a[1]).isInstance(w.pieces.get(w.spots[a[0]])), Due.KIND);
                return w.spots[a[0]];
            case "sheet":
                within(a[0], 0, 3);
                need(List.of(0, 8, 16, 32).contains(a[1]), Due.BEYOND);
                need(a[2] >= 0, Due.SIZE);
                need(a[2] <= 40, Due.BEYOND);
                sheets[a[0]] = a[1] == 0 ? null : new long[a[2]];
                bits[a[0]] = a[1];
                return a[1] == 0 ? 0 : a[2];
            case "write":
                sheetThere(a[0]);
                within(a[1], 0, sheets[a[0]].length - 1);
                long whole = 1L << bits[a[0]];
                long v = Math.floorMod((long) a[2], whole);
                sheets[a[0]][a[1]] = v >= whole / 2 ? v - whole : v;
                return 1;
            case "copy":
                return copied(a);
            case "load":
                sheetThere(a[0]);
                int came = 0;
                for (long length : sheets[a[0]]) {
                    if (length < 1 || length > 99 || came == w.pieces.size()) {
                        break;
                    }
                    w.pieces.get(came++).length = (int) length;
                }
                return came;
            default:
                sheetThere(a[0]);
                for (int i = 0; i < sheets[a[0]].length; i++) {
                    if (i >= w.pieces.size() || w.pieces.get(i).place != sheets[a[0]][i]) {
                        return 1 + i;
                    }
                }
                return 0;
        }
    }

    private long copied(int[] a) {
        within(a[0], 0, 3);
        within(a[2], 0, 3);
        need(sheets[a[0]] != null && sheets[a[2]] != null, Due.MISSING);
        need(bits[a[0]] == bits[a[2]], Due.KIND);
        need(a[1] >= 0 && a[3] >= 0 && a[4] >= 0, Due.BEYOND);
        need((long) a[1] + a[4] <= sheets[a[0]].length, Due.BEYOND);
        need((long) a[3] + a[4] <= sheets[a[2]].length, Due.BEYOND);
        long[] all = sheets[a[0]].clone();
        for (int i = 0; i < a[4]; i++) {
            sheets[a[2]][a[3] + i] = all[a[1] + i];
        }
        return a[4];
    }

    private long imagesAct(String act, int[] a) {
        switch (act) {
            case "image":
                image = w.copy();
                return 1;
            case "undo":
                need(image != null, Due.NONE);
                w = image.copy();
                return w.day;
            case "tear":
                int was = image == null ? 0 : 1;
                image = null;
                return was;
            case "count":
                within(a[0], 0, 7);
                int holding = (int) Arrays.stream(w.spots).filter(p -> p != null).count();
                return new int[] {w.day, w.pieces.size(), w.ball, w.longAll(), w.off, tape.length(), w.z, holding}[a[0]];
            case "status":
                within(a[0], -1, 6);
                return a[0] == -1 ? Arrays.stream(told).sum() : told[a[0]];
            default:
                throw new IllegalArgumentException(act);
        }
    }
}
