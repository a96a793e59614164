import java.math.BigInteger;
import java.util.ArrayDeque;
import java.util.ArrayList;
import java.util.Deque;
import java.util.List;
import java.util.TreeSet;
import java.util.regex.Matcher;
import java.util.regex.Pattern;

/** The document once more, written as plainly as the whole Java library lets it be, for ModelTest. */
final class Model {
    private static final int BAD = -1, NO = -2, FULL = -3, NONE = -4;

    private record Layer(TreeSet<Integer> words, int wet, int hot) {
    }

    private static final class State {
        int hours;
        final List<TreeSet<Integer>> swathes = new ArrayList<>();
        final List<Integer> wet = new ArrayList<>();
        final List<TreeSet<Integer>> told = new ArrayList<>();
        final List<List<Layer>> ricks = new ArrayList<>();
        final List<Integer> burnt = new ArrayList<>();

        State copy() {
            State other = new State();
            other.hours = hours;
            swathes.forEach(s -> other.swathes.add(new TreeSet<>(s)));
            other.wet.addAll(wet);
            told.forEach(t -> other.told.add(new TreeSet<>(t)));
            ricks.forEach(r -> other.ricks.add(new ArrayList<>(r)));
            other.burnt.addAll(burnt);
            return other;
        }
    }

    private String text = "";
    private List<String> mowers;
    private String weather;
    private List<Integer> kinds;
    private List<Integer> thatches;
    private State now;
    private final Deque<State> past = new ArrayDeque<>();
    private final Deque<State> kept = new ArrayDeque<>();
    private final List<int[]> seen = new ArrayList<>();

    Model() {
        read("m314;m2718;m5;m9902;e0120;c0;c1;c2;c3;k2;k0;k5;");
    }

    private void read(String items) {
        mowers = new ArrayList<>();
        kinds = new ArrayList<>();
        thatches = new ArrayList<>();
        weather = "0";
        for (String item : items.split(";")) {
            String what = item.substring(1);
            switch (item.charAt(0)) {
                case 'm' -> mowers.add(what);
                case 'e' -> weather = what;
                case 'c' -> kinds.add(Integer.parseInt(what));
                default -> thatches.add(Integer.parseInt(what));
            }
        }
        now = new State();
        mowers.forEach(m -> {
            now.swathes.add(new TreeSet<>());
            now.wet.add(0);
        });
        kinds.forEach(k -> now.told.add(new TreeSet<>()));
        thatches.forEach(t -> {
            now.ricks.add(new ArrayList<>());
            now.burnt.add(0);
        });
    }

    private static TreeSet<Integer> words(int bits) {
        TreeSet<Integer> words = new TreeSet<>();
        for (int w = 0; w <= 9; w++) {
            if (BigInteger.valueOf(bits).testBit(w)) {
                words.add(w);
            }
        }
        return words;
    }

    private static int bits(Iterable<Integer> words) {
        int sum = 0;
        for (int w : words) {
            sum += (int) Math.round(Math.pow(2, w));
        }
        return sum;
    }

    private static TreeSet<Integer> heard(int kind, TreeSet<Integer> layer, TreeSet<Integer> told) {
        TreeSet<Integer> heard = new TreeSet<>(layer);
        if (kind == 1) {
            heard.removeIf(w -> w % 2 != 0);
        } else if (kind == 2 && !layer.isEmpty()) {
            heard.retainAll(List.of(layer.first()));
        } else if (kind == 3 && !told.isEmpty()) {
            heard.removeIf(w -> w <= told.last());
        }
        return heard;
    }

    private int word(int m, int hour) {
        String row = mowers.get(m);
        return row.charAt(hour % row.length()) - '0';
    }

    private void hour(State s) {
        for (int k = 0; k < s.ricks.size(); k++) {
            List<Layer> hotter = new ArrayList<>();
            boolean burns = false;
            for (Layer l : s.ricks.get(k)) {
                int more = l.wet - thatches.get(k);
                Layer next = new Layer(l.words, l.wet, more > 0 ? l.hot + more : l.hot);
                burns |= next.hot >= 40;
                hotter.add(next);
            }
            if (burns) {
                hotter.clear();
                s.burnt.set(k, s.burnt.get(k) + 1);
            }
            s.ricks.set(k, hotter);
        }
        for (int m = 0; m < mowers.size(); m++) {
            s.swathes.get(m).add(word(m, s.hours));
            int rain = weather.charAt(s.hours % weather.length()) - '0';
            s.wet.set(m, Math.min(99, s.wet.get(m) + rain));
        }
        s.hours++;
    }

    private State later(int n) {
        State s = now.copy();
        for (int i = 0; i < n; i++) {
            hour(s);
        }
        return s;
    }

    private static TreeSet<Integer> together(State s, int a, int b) {
        TreeSet<Integer> all = new TreeSet<>();
        for (int m = a; m <= b; m++) {
            all.addAll(s.swathes.get(m));
        }
        return all;
    }

    private static int raked(State s, int a, int b, int k) {
        TreeSet<Integer> all = together(s, a, b);
        if (all.isEmpty()) {
            return NO;
        }
        if (s.ricks.get(k).size() == 8) {
            return FULL;
        }
        int wet = 0;
        for (int m = a; m <= b; m++) {
            wet += s.wet.get(m);
            s.wet.set(m, 0);
            s.swathes.set(m, new TreeSet<>());
        }
        s.ricks.get(k).add(new Layer(all, Math.min(99, wet), 0));
        return s.ricks.get(k).size();
    }

    private int cutFor(State s, int k, int c) {
        List<Layer> rick = s.ricks.get(k);
        if (rick.isEmpty()) {
            return NO;
        }
        TreeSet<Integer> told = s.told.get(c);
        TreeSet<Integer> fresh = heard(kinds.get(c), rick.remove(rick.size() - 1).words, told);
        fresh.removeAll(told);
        told.addAll(fresh);
        return bits(fresh);
    }

    private static int turned(State s, int m) {
        return s.wet.get(m) == 0 ? NO : s.wet.set(m, 0);
    }

    private static int heaped(State s, int j, int k) {
        if (s.ricks.get(j).isEmpty()) {
            return NO;
        }
        if (s.ricks.get(j).size() + s.ricks.get(k).size() > 8) {
            return FULL;
        }
        s.ricks.get(k).addAll(s.ricks.get(j));
        s.ricks.get(j).clear();
        return s.ricks.get(k).size();
    }

    private int acted(State then, int answer) {
        if (answer >= 0) {
            past.push(now);
            if (past.size() > 8) {
                past.removeLast();
            }
            now = then;
        }
        return answer;
    }

    private static boolean in(int number, int least, int most) {
        return least <= number && number <= most;
    }

    private boolean noMower(int m) {
        return !in(m, 0, mowers.size() - 1);
    }

    private boolean noCow(int c) {
        return !in(c, 0, kinds.size() - 1);
    }

    private boolean noRick(int k) {
        return !in(k, 0, thatches.size() - 1);
    }

    private static int layers(State s) {
        return s.ricks.stream().mapToInt(List::size).sum();
    }

    private static int burntIn(State s) {
        return s.burnt.stream().mapToInt(Integer::intValue).sum();
    }

    private static int toldIn(State s) {
        return s.told.stream().mapToInt(TreeSet::size).sum();
    }

    private static int part(long above, long below, int part) {
        BigInteger a = BigInteger.valueOf(above);
        BigInteger b = BigInteger.valueOf(below);
        return (part == 0 ? a : b).divide(a.gcd(b)).intValueExact();
    }

    int write(int letter) {
        if (!in(letter, 32, 126)) {
            return BAD;
        }
        if (text.length() == 200) {
            return FULL;
        }
        text += (char) letter;
        return text.length();
    }

    int wipe() {
        int length = text.length();
        text = "";
        return length;
    }

    int fault() {
        Matcher item = Pattern.compile("\\G(m[0-9]{1,9}|e[0-3]{1,9}|c0?[0-3]|k0?[0-9]);").matcher(text);
        int[] found = new int[128];
        int place = 0;
        while (item.find()) {
            char letter = text.charAt(item.start());
            found[letter]++;
            if (found['m'] > 5 || found['c'] > 4 || found['k'] > 3) {
                break;
            }
            place = item.end();
        }
        return place == text.length() ? NONE : place;
    }

    int lay() {
        if (fault() != NONE || text.indexOf('m') < 0 || text.indexOf('c') < 0 || text.indexOf('k') < 0) {
            return NO;
        }
        read(text);
        past.clear();
        kept.clear();
        seen.clear();
        return mowers.size();
    }

    int mower(int m, int what) {
        if (noMower(m) || !in(what, 0, 2)) {
            return BAD;
        }
        return what == 0 ? word(m, now.hours) : what == 1 ? bits(now.swathes.get(m)) : now.wet.get(m);
    }

    int cow(int c, int what) {
        if (noCow(c) || !in(what, 0, 1)) {
            return BAD;
        }
        return what == 0 ? kinds.get(c) : bits(now.told.get(c));
    }

    int rick(int k, int what) {
        if (noRick(k) || !in(what, 0, 3)) {
            return BAD;
        }
        List<Layer> rick = now.ricks.get(k);
        return switch (what) {
            case 0 -> thatches.get(k);
            case 1 -> rick.size();
            case 2 -> rick.stream().mapToInt(Layer::hot).max().orElse(0);
            default -> now.burnt.get(k);
        };
    }

    int layer(int k, int i, int what) {
        if (noRick(k) || !in(i, 0, now.ricks.get(k).size() - 1) || !in(what, 0, 2)) {
            return BAD;
        }
        Layer layer = now.ricks.get(k).get(i);
        return what == 0 ? bits(layer.words) : what == 1 ? layer.wet : layer.hot;
    }

    int pass(int n) {
        if (!in(n, 1, 24)) {
            return BAD;
        }
        if (now.hours > 999 - n) {
            return NO;
        }
        State then = later(n);
        return acted(then, then.hours);
    }

    int rake(int a, int b, int k) {
        if (noMower(a) || noMower(b) || a > b || noRick(k)) {
            return BAD;
        }
        State then = now.copy();
        return acted(then, raked(then, a, b, k));
    }

    int cut(int k, int c) {
        if (noRick(k) || noCow(c)) {
            return BAD;
        }
        State then = now.copy();
        return acted(then, cutFor(then, k, c));
    }

    int turn(int m) {
        if (noMower(m)) {
            return BAD;
        }
        State then = now.copy();
        return acted(then, turned(then, m));
    }

    int heap(int j, int k) {
        if (noRick(j) || noRick(k) || j == k) {
            return BAD;
        }
        State then = now.copy();
        return acted(then, heaped(then, j, k));
    }

    int undo() {
        if (past.isEmpty()) {
            return NO;
        }
        now = past.pop();
        return past.size();
    }

    int behind(int n, int m, int what) {
        if (!in(n, 0, 40) || noMower(m) || !in(what, 0, 1)) {
            return BAD;
        }
        return what == 0 ? bits(later(n).swathes.get(m)) : later(n).wet.get(m);
    }

    int burns(int k) {
        if (noRick(k)) {
            return BAD;
        }
        for (int n = 1; n <= 60; n++) {
            if (later(n).burnt.get(k) > now.burnt.get(k)) {
                return n;
            }
        }
        return NONE;
    }

    private boolean tells(int c, TreeSet<Integer> set, int[] cuts) {
        State s = now.copy();
        for (int k = 0; k < cuts.length; k++) {
            for (int i = 0; i < cuts[k]; i++) {
                if (cutFor(s, k, c) == NO) {
                    return false;
                }
            }
        }
        return s.told.get(c).containsAll(set);
    }

    int tell(int c, int set, int k) {
        if (noCow(c) || !in(set, 1, 1023) || !in(k, -1, thatches.size() - 1)) {
            return BAD;
        }
        for (int all = 0; all <= layers(now); all++) {
            for (int i = all; i >= 0; i--) {
                for (int j = all - i; j >= 0; j--) {
                    int[] cuts = {i, j, all - i - j};
                    boolean none = cuts[1] > 0 && thatches.size() < 2 || cuts[2] > 0 && thatches.size() < 3;
                    int[] real = java.util.Arrays.copyOf(cuts, thatches.size());
                    if (!none && tells(c, words(set), real)) {
                        return k == -1 ? all : cuts[k];
                    }
                }
            }
        }
        return NONE;
    }

    int rakes(int set) {
        if (!in(set, 1, 1023)) {
            return BAD;
        }
        for (int others = 0; others <= 9; others++) {
            for (int ab = 0; ab <= 44; ab++) {
                int a = ab / 10;
                int b = ab % 10;
                if (!noMower(a) && !noMower(b) && a <= b) {
                    TreeSet<Integer> all = together(now, a, b);
                    if (all.containsAll(words(set)) && all.size() == words(set).size() + others) {
                        return ab;
                    }
                }
            }
        }
        return NONE;
    }

    int most(int c, int what) {
        if (noCow(c) || !in(what, 0, 1)) {
            return BAD;
        }
        for (int many = 10; many >= 0; many--) {
            for (int k = 0; k < thatches.size(); k++) {
                int fresh = cutFor(now.copy(), k, c);
                if (fresh >= 0 && words(fresh).size() == many) {
                    return what == 0 ? k : many;
                }
            }
        }
        return NONE;
    }

    int first(int w, int what) {
        if (!in(w, 0, 9) || !in(what, 0, 1)) {
            return BAD;
        }
        for (int n = 1; n <= 60; n++) {
            for (int m = 0; m < mowers.size(); m++) {
                if (word(m, now.hours + n - 1) == w) {
                    return what == 0 ? n : m;
                }
            }
        }
        return NONE;
    }

    int needle(int w, int k, int part) {
        if (!in(w, 0, 9) || noRick(k) || !in(part, 0, 1)) {
            return BAD;
        }
        int[] places = new int[3];
        int all = 0;
        for (int r = 0; r < thatches.size(); r++) {
            List<Layer> rick = now.ricks.get(r);
            for (int i = 0; i < rick.size(); i++) {
                if (rick.get(i).words.contains(w)) {
                    places[r] += i + 1;
                    all += i + 1;
                }
            }
        }
        return all == 0 ? NONE : part(places[k], all, part);
    }

    int see(int v, int h) {
        if (!in(v, 0, 9) || !in(h, 0, 99)) {
            return BAD;
        }
        if (seen.size() == 6) {
            return FULL;
        }
        seen.add(new int[] {v, h});
        return seen.size();
    }

    int forget() {
        int size = seen.size();
        seen.clear();
        return size;
    }

    int which() {
        TreeSet<Integer> who = new TreeSet<>();
        for (int m = 0; m < mowers.size(); m++) {
            int each = m;
            if (seen.stream().allMatch(s -> word(each, s[1]) == s[0])) {
                who.add(m);
            }
        }
        return bits(who);
    }

    int kinds(int set, int told) {
        if (!in(set, 0, 1023) || !in(told, 0, 1023)) {
            return BAD;
        }
        TreeSet<Integer> fit = new TreeSet<>();
        for (int kind = 0; kind <= 3; kind++) {
            if (heard(kind, words(set), new TreeSet<>()).equals(words(told))) {
                fit.add(kind);
            }
        }
        return bits(fit);
    }

    /** How many of the 10 to the n likely cases, hour by hour, are as wet as that. */
    private long wetCases(int wet, int hour, int n, int x, int w) {
        if (n == 0) {
            return wet >= w ? 1 : 0;
        }
        int weatherThen = weather.charAt(hour % weather.length()) - '0';
        long rainy = x == 0 ? 0 : x * wetCases(Math.min(99, wet + weatherThen + 3), hour + 1, n - 1, x, w);
        long dry = x == 10 ? 0 : (10 - x) * wetCases(Math.min(99, wet + weatherThen), hour + 1, n - 1, x, w);
        return rainy + dry;
    }

    int rain(int m, int n, int x, int w, int part) {
        if (noMower(m) || !in(n, 0, 8) || !in(x, 0, 10) || !in(w, 0, 99) || !in(part, 0, 1)) {
            return BAD;
        }
        long below = BigInteger.TEN.pow(n).longValueExact();
        return part(wetCases(now.wet.get(m), now.hours, n, x, w), below, part);
    }

    int february(int z, int n, int what) {
        if (!in(z, 0, 9999) || !in(n, 1, 60) || !in(what, 0, 2)) {
            return BAD;
        }
        State s = now.copy();
        for (int k = 0; k < n; k++) {
            BigInteger x = BigInteger.valueOf(7919L * z).add(BigInteger.valueOf(6151L * k + 1));
            int draw = x.pow(2).mod(BigInteger.valueOf(65521)).intValueExact();
            int r = draw / 64 % thatches.size();
            switch (draw % 8) {
                case 0, 1 -> raked(s, 0, draw / 8 % mowers.size(), r);
                case 2, 3 -> cutFor(s, r, draw / 8 % kinds.size());
                case 4 -> turned(s, draw / 8 % mowers.size());
                default -> {
                }
            }
            hour(s);
        }
        return what == 0 ? toldIn(s) : what == 1 ? layers(s) : burntIn(s) - burntIn(now);
    }

    int keep() {
        if (kept.size() == 2) {
            return FULL;
        }
        kept.push(now.copy());
        return kept.size();
    }

    int back() {
        if (kept.isEmpty()) {
            return NO;
        }
        now = kept.pop();
        past.clear();
        return kept.size();
    }

    int count(int what) {
        return switch (what) {
            case 0 -> mowers.size();
            case 1 -> kinds.size();
            case 2 -> thatches.size();
            case 3 -> now.hours;
            case 4 -> layers(now);
            case 5 -> burntIn(now);
            case 6 -> toldIn(now);
            case 7 -> seen.size();
            case 8 -> past.size();
            case 9 -> kept.size();
            case 10 -> text.length();
            default -> BAD;
        };
    }
}
