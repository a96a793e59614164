import java.util.Random;

/** Drawn runs of 512 calls, each answered by HayTalk and by Model; the draws are always the same. */
public final class ModelTest {
    private static final int RUNS = 400;
    private static final int CALLS = 512;
    private static final Due DUE = new Due();
    private static final String[] NAMES = {
        "write", "wipe", "fault", "lay", "mower", "cow", "rick", "layer", "pass", "rake", "cut", "turn", "heap", "undo",
        "behind", "burns", "tell", "rakes", "most", "first", "needle", "see", "forget", "which", "kinds", "rain",
        "february", "keep", "back", "count"};
    // how often a call is drawn, so that ricks grow and are cut before a text is laid anew
    private static final int[] WEIGHTS = {
        4, 1, 3, 1, 6, 5, 6, 8, 16, 22, 8, 5, 6, 6,
        4, 5, 12, 8, 6, 4, 6, 5, 1, 3, 3, 5,
        2, 2, 1, 7};

    public static void main(String[] args) {
        for (int seed = 0; seed < RUNS; seed++) {
            run(new Random(seed), seed);
        }
        DUE.end("ModelTest");
    }

    private static void run(Random draw, int seed) {
        HayTalk hay = new HayTalk();
        Model model = new Model();
        int calls = 0;
        boolean hourly = draw.nextInt(4) == 0;
        if (seed % 3 != 0) {
            String text = drawnText(draw);
            for (int i = 0; i < text.length(); i++) {
                hay.write(text.charAt(i));
                model.write(text.charAt(i));
            }
            DUE.due("run " + seed + ": fault of " + text, hay.fault(), model.fault());
            DUE.due("run " + seed + ": lay of " + text, hay.lay(), model.lay());
            calls = text.length() + 2;
        }
        for (; calls < CALLS; calls++) {
            int which = drawnCall(draw);
            int[] args = new int[5];
            for (int i = 0; i < 5; i++) {
                args[i] = drawnArgument(draw, NAMES[which], i, hourly);
            }
            int want = Calls.answer(model, NAMES[which], args);
            int got = Calls.answer(hay, NAMES[which], args);
            DUE.due("run " + seed + ", call " + calls + ": " + NAMES[which] + java.util.Arrays.toString(args), got, want);
        }
    }

    private static int drawnCall(Random draw) {
        int all = 0;
        for (int weight : WEIGHTS) {
            all += weight;
        }
        int left = draw.nextInt(all);
        int which = 0;
        while (left >= WEIGHTS[which]) {
            left -= WEIGHTS[which];
            which++;
        }
        return which;
    }

    private static String drawnText(Random draw) {
        StringBuilder text = new StringBuilder();
        int items = 3 + draw.nextInt(12);
        for (int i = 0; i < items; i++) {
            text.append(drawnItem(draw, i));
        }
        if (draw.nextInt(6) == 0) {
            text.setCharAt(draw.nextInt(text.length()), (char) (32 + draw.nextInt(95)));
        }
        return text.toString();
    }

    private static String drawnItem(Random draw, int i) {
        char letter = i < 3 ? "mck".charAt(i) : "mmmmckkeec".charAt(draw.nextInt(10));
        StringBuilder item = new StringBuilder().append(letter);
        if (letter == 'c') {
            item.append(draw.nextInt(9) == 0 ? "0" : "").append(draw.nextInt(4));
        } else if (letter == 'k') {
            item.append(draw.nextInt(9) == 0 ? "0" : "").append(draw.nextInt(10));
        } else {
            int figures = 1 + draw.nextInt(9);
            for (int k = 0; k < figures; k++) {
                item.append(draw.nextInt(letter == 'm' ? 10 : 4));
            }
        }
        return item.append(';').toString();
    }

    private static int drawnArgument(Random draw, String name, int i, boolean hourly) {
        if (draw.nextInt(60) == 0) {
            int[] wild = {-1, -2, 10, 11, 25, 41, 61, 100, 1000, 1024, 10000, Integer.MAX_VALUE, Integer.MIN_VALUE};
            return wild[draw.nextInt(wild.length)];
        }
        switch (name) {
            case "write":
                return "m0;c0;k0;e1;m7;k3;m9;c3;m48;cmke;,x 0123456789".charAt(draw.nextInt(46));
            case "pass":
                return hourly ? 1 + draw.nextInt(3) : 1 + draw.nextInt(1 + draw.nextInt(24));
            case "layer":
                return i == 1 ? draw.nextInt(1 + draw.nextInt(8)) : draw.nextInt(3);
            case "rake":
                return i == 0 ? draw.nextInt(1 + draw.nextInt(5)) : i == 1 ? draw.nextInt(5) : draw.nextInt(3);
            case "behind":
                return i == 0 ? draw.nextInt(41) : draw.nextInt(i == 1 ? 5 : 2);
            case "tell":
                return i == 0 ? draw.nextInt(4) : i == 1 ? drawnSet(draw) : draw.nextInt(4) - 1;
            case "rakes":
            case "kinds":
                return drawnSet(draw);
            case "see":
                return draw.nextInt(i == 0 ? 10 : 100);
            case "first":
            case "needle":
                return draw.nextInt(i == 0 ? 10 : i == 1 && name.equals("needle") ? 3 : 2);
            case "rain":
                int[] tops = {5, 9, 11, 1 + draw.nextInt(100), 2};
                return draw.nextInt(tops[i]);
            case "february":
                int[] most = {10000, 61, 3, 1, 1};
                return draw.nextInt(most[i]);
            case "count":
                return draw.nextInt(11);
            default:
                return draw.nextInt(4);
        }
    }

    private static int drawnSet(Random draw) {
        int set = draw.nextInt(5) == 0 ? draw.nextInt(1024) : 1 << draw.nextInt(10);
        return draw.nextBoolean() ? set : set | 1 << draw.nextInt(10);
    }
}
