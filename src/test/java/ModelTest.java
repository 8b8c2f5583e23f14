import java.lang.reflect.Method;
import java.util.ArrayList;
import java.util.Comparator;
import java.util.List;
import java.util.Random;

/** Runs of calls by seeds, each answered by the class and by the plain model alike. */
public final class ModelTest {
    private static final int RUNS = 400;
    /** A text may take some more, up to 512. */
    private static final int CALLS = 470;
    private static final Due due = new Due("ModelTest");
    private static final String[] WORDS = {"piece", "ticking", "birthday", "row", "letter", "hers", "fuse",
        "ball", "drag", "to", "long", "knots"};

    public static void main(String[] args) throws Exception {
        List<Method> acts = new ArrayList<>();
        for (Method m : ParcelBall.class.getDeclaredMethods()) {
            if (java.lang.reflect.Modifier.isPublic(m.getModifiers())) {
                acts.add(m);
            }
        }
        acts.sort(Comparator.comparing(Method::getName));
        for (int seed = 0; seed < RUNS; seed++) {
            run(seed, acts);
        }
        due.end();
    }

    private static void run(int seed, List<Method> acts) throws Exception {
        Random random = new Random(seed);
        boolean wild = seed % 10 == 9;
        ParcelBall x = new ParcelBall();
        PlainModel model = new PlainModel();
        for (int i = 0; i < CALLS; i++) {
            if (random.nextInt(12) == 0) {
                i += feedText(x, model, random);
            }
            Method act = acts.get(random.nextInt(acts.size()));
            if (act.getName().equals("lend") && random.nextInt(3) > 0) {
                continue;
            }
            int[] a = wild ? wildArguments(act, random) : arguments(act, random, model.w.pieces.size());
            Object[] boxed = new Object[a.length];
            for (int k = 0; k < a.length; k++) {
                boxed[k] = a[k];
            }
            long got = ((Number) act.invoke(x, boxed)).longValue();
            long want = model.call(act.getName(), a);
            String call = act.getName() + java.util.Arrays.toString(a);
            due.is("seed " + seed + " call " + i + " " + call, got, want);
            if (got != want) {
                return;
            }
        }
    }

    private static int[] wildArguments(Method act, Random random) {
        int[] edges = {Integer.MIN_VALUE, Integer.MIN_VALUE + 1, -2, -1, 0, 1, 2, 7, 8, 11, 12, 40, 41, 255, 256,
            Integer.MAX_VALUE - 1, Integer.MAX_VALUE};
        int[] a = new int[act.getParameterCount()];
        for (int k = 0; k < a.length; k++) {
            a[k] = random.nextInt(4) == 0 ? random.nextInt() : edges[random.nextInt(edges.length)];
        }
        return a;
    }

    /** Mostly such as the act takes; now and then one beside that. */
    private static int[] arguments(Method act, Random random, int pieces) {
        int[] most = most(act.getName(), random, pieces);
        int[] a = new int[most.length];
        for (int k = 0; k < a.length; k++) {
            a[k] = random.nextInt(most[k] + 1);
            if (random.nextInt(25) == 0) {
                a[k] = random.nextBoolean() ? -1 : most[k] + 1;
            }
        }
        if (act.getName().equals("sheet") && random.nextInt(10) > 0) {
            a[1] = new int[] {0, 8, 8, 8, 16, 32}[random.nextInt(6)];
        }
        if (act.getName().equals("write") && random.nextInt(3) == 0) {
            a[2] = random.nextInt();
        }
        return a;
    }

    private static int[] most(String act, Random random, int pieces) {
        int piece = Math.max(0, pieces - 1);
        switch (act) {
            case "ball": case "felt": case "when": return new int[] {11};
            case "drag": case "lend": return new int[] {random.nextBoolean() ? 99 : 20};
            case "wind": return new int[] {6, 11};
            case "of": return new int[] {piece, 9};
            case "change":
                int what = random.nextInt(6);
                return new int[] {piece, 5, new int[] {6, 11, 99, 9, 40, 9999}[what]};
            case "go": return new int[] {random.nextBoolean() ? 60 : 9};
            case "now": case "count": return new int[] {7};
            case "ahead": return new int[] {piece, 9, 100};
            case "where": return new int[] {100};
            case "comes": return new int[] {piece};
            case "unwind": return new int[] {(1 << pieces) - 1};
            case "had": return new int[] {random.nextBoolean() ? 999 : 200};
            case "drawTo": case "longFor": return new int[] {piece, 11, random.nextBoolean() ? 40 : 7};
            case "kindFor": return new int[] {piece, 40};
            case "dragFor": return new int[] {11, random.nextBoolean() ? 40 : 7};
            case "loosen": return new int[] {11, random.nextBoolean() ? 20 : 6};
            case "fits": case "kinds": return new int[] {3, piece};
            case "parcels": return new int[] {20};
            case "odds": return new int[] {17, 1};
            case "seed": return new int[] {Integer.MAX_VALUE - 1};
            case "feed": return new int[] {Integer.MAX_VALUE - 1, 4};
            case "hold": return new int[] {9, piece};
            case "as": return new int[] {9, 6};
            case "sheet": return new int[] {3, 32, random.nextBoolean() ? 40 : 4};
            case "write": return new int[] {3, random.nextBoolean() ? 40 : 4, 11};
            case "copy": return new int[] {3, 5, 3, 5, random.nextBoolean() ? 40 : 4};
            case "load": case "judge": return new int[] {3};
            case "status": return new int[] {6};
            default: return new int[0];
        }
    }

    /** A text, often a right one, behind an empty tape; both read it at once. */
    private static int feedText(ParcelBall x, PlainModel model, Random random) {
        StringBuilder text = new StringBuilder();
        int items = 1 + random.nextInt(4);
        for (int i = 0; i < items; i++) {
            text.append(i == 0 ? "" : blank(random) + ";" + blank(random)).append(item(random));
        }
        if (random.nextInt(3) == 0) {
            spoil(text, random);
        }
        int calls = 0;
        due.is("wipe()", x.wipe(), model.call("wipe"));
        for (int i = 0; i < text.length(); i += 4, calls++) {
            int bytes = 0;
            int n = Math.min(4, text.length() - i);
            for (int k = 0; k < n; k++) {
                bytes = bytes << 8 | text.charAt(i + k);
            }
            due.is("feed", x.feed(bytes, n), model.call("feed", bytes, n));
        }
        due.is("text() of \"" + text + "\"", x.text(), model.call("text"));
        return calls + 2;
    }

    private static String blank(Random random) {
        return "  ".substring(random.nextInt(3));
    }

    private static String item(Random random) {
        int which = random.nextInt(9);
        if (which >= 7) {
            return WORDS[which] + blank(random) + random.nextInt(which == 7 ? 13 : 102);
        }
        StringBuilder item = new StringBuilder(WORDS[which]);
        int[] most = {12, 101, 10};
        for (int k = 0; k < 3; k++) {
            if (random.nextBoolean()) {
                item.append(' ').append(WORDS[9 + k]).append(blank(random));
                item.append(random.nextInt(9) == 0 ? "00" : "").append(random.nextInt(most[k] + 1)).append(blank(random));
            }
        }
        return item.toString();
    }

    private static void spoil(StringBuilder text, Random random) {
        String noise = "; 0a9z#A\t\u00ff\n-0199";
        char sign = noise.charAt(random.nextInt(noise.length()));
        int at = random.nextInt(text.length());
        switch (random.nextInt(4)) {
            case 0: text.setCharAt(at, sign); break;
            case 1: text.insert(at, sign); break;
            case 2: text.deleteCharAt(at); break;
            default: text.setLength(at); break;
        }
    }
}
