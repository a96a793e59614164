import java.util.ArrayList;
import java.util.List;

/** BAD: every number of every call, at its bounds, next to them and far off; no other answer is BAD. */
public final class BoundsTest {
    private static final Due DUE = new Due();
    /** Stands for the last MOWER, COW and RICK that there are. */
    private static final int MOWER = -10, COW = -11, RICK = -12;
    private static final int[][] NO_BOUNDS = {};

    private record Face(String name, int[][] bounds) {
    }

    private static final List<Face> FACES = List.of(
        new Face("write", new int[][] {{32, 126}}),
        new Face("wipe", NO_BOUNDS), new Face("fault", NO_BOUNDS), new Face("lay", NO_BOUNDS),
        new Face("mower", new int[][] {{0, MOWER}, {0, 2}}),
        new Face("cow", new int[][] {{0, COW}, {0, 1}}),
        new Face("rick", new int[][] {{0, RICK}, {0, 3}}),
        new Face("layer", new int[][] {{0, RICK}, {0, 7}, {0, 2}}),
        new Face("pass", new int[][] {{1, 24}}),
        new Face("rake", new int[][] {{0, MOWER}, {0, MOWER}, {0, RICK}}),
        new Face("cut", new int[][] {{0, RICK}, {0, COW}}),
        new Face("turn", new int[][] {{0, MOWER}}),
        new Face("heap", new int[][] {{0, RICK}, {0, RICK}}),
        new Face("undo", NO_BOUNDS),
        new Face("behind", new int[][] {{0, 40}, {0, MOWER}, {0, 1}}),
        new Face("burns", new int[][] {{0, RICK}}),
        new Face("tell", new int[][] {{0, COW}, {1, 1023}, {-1, RICK}}),
        new Face("rakes", new int[][] {{1, 1023}}),
        new Face("most", new int[][] {{0, COW}, {0, 1}}),
        new Face("first", new int[][] {{0, 9}, {0, 1}}),
        new Face("needle", new int[][] {{0, 9}, {0, RICK}, {0, 1}}),
        new Face("see", new int[][] {{0, 9}, {0, 99}}),
        new Face("forget", NO_BOUNDS), new Face("which", NO_BOUNDS),
        new Face("kinds", new int[][] {{0, 1023}, {0, 1023}}),
        new Face("rain", new int[][] {{0, MOWER}, {0, 8}, {0, 10}, {0, 99}, {0, 1}}),
        new Face("february", new int[][] {{0, 9999}, {1, 60}, {0, 2}}),
        new Face("keep", NO_BOUNDS), new Face("back", NO_BOUNDS),
        new Face("count", new int[][] {{0, 10}}));

    public static void main(String[] args) {
        DUE.due("all calls of the face", FACES.size(), 30);
        land("m12;c0;k0;", 1, 1, 1);
        land("m12;m3;c0;c3;c2;k0;k1;", 2, 3, 2);
        land("m314;m2718;m5;m9902;e0120;c0;c1;c2;c3;k2;k0;k5;", 4, 4, 3);
        land("m1;m2;m3;m4;m5;c0;c1;k0;k0;k9;e1;", 5, 2, 3);
        DUE.end("BoundsTest");
    }

    private static void land(String text, int mowers, int cows, int ricks) {
        for (Face face : FACES) {
            int[][] bounds = new int[face.bounds.length][];
            for (int i = 0; i < bounds.length; i++) {
                int most = face.bounds[i][1];
                most = most == MOWER ? mowers - 1 : most == COW ? cows - 1 : most == RICK ? ricks - 1 : most;
                bounds[i] = new int[] {face.bounds[i][0], most};
            }
            calls(text, face.name, bounds);
        }
    }

    /** Each number in turn is drawn through its bounds, the others being their least, then their greatest. */
    private static void calls(String text, String name, int[][] bounds) {
        if (bounds.length == 0) {
            dueCall(text, name, bounds, new int[0]);
        }
        for (int i = 0; i < bounds.length; i++) {
            for (int side = 0; side <= 1; side++) {
                int[] numbers = new int[bounds.length];
                for (int j = 0; j < bounds.length; j++) {
                    numbers[j] = bounds[j][side];
                }
                for (int number : around(bounds[i][0], bounds[i][1])) {
                    numbers[i] = number;
                    dueCall(text, name, bounds, numbers);
                }
            }
        }
    }

    private static List<Integer> around(int least, int greatest) {
        List<Integer> numbers = new ArrayList<>(List.of(Integer.MIN_VALUE, Integer.MIN_VALUE + 1, -1000, 100000,
            Integer.MAX_VALUE - 1, Integer.MAX_VALUE));
        for (int number = least - 5; number <= greatest + 5; number++) {
            if (number < least + 12 || number > greatest - 12) {
                numbers.add(number);
            }
        }
        return numbers;
    }

    private static void dueCall(String text, String name, int[][] bounds, int[] numbers) {
        HayTalk hay = standing(text);
        boolean bad = false;
        for (int i = 0; i < bounds.length; i++) {
            bad |= numbers[i] < bounds[i][0] || numbers[i] > bounds[i][1];
        }
        bad |= name.equals("rake") && numbers[1] < numbers[0];
        bad |= name.equals("heap") && numbers[0] == numbers[1];
        bad |= name.equals("layer") && !bad && numbers[1] > numbers[0];
        int got = Calls.answer(hay, name, numbers);
        String call = name + java.util.Arrays.toString(numbers) + " of " + text + " answered " + got + ": is BAD";
        DUE.due(call, got == HayTalk.BAD ? 1 : 0, bad ? 1 : 0);
    }

    /** Each RICK has one LAYER more than the one ahead of it, WORDS lie in all SWATHES. */
    private static HayTalk standing(String text) {
        HayTalk hay = Due.laid(text);
        for (int k = 0; k < hay.count(2); k++) {
            for (int i = 0; i <= k; i++) {
                hay.pass(1);
                hay.rake(0, hay.count(0) - 1, k);
            }
        }
        hay.pass(1);
        return hay;
    }
}
