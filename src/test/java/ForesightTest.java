/** Promises 16 to 22: what comes, and what is best. */
public final class ForesightTest {
    private static final Due DUE = new Due();

    public static void main(String[] args) {
        behind();
        burns();
        tell();
        tellFirst();
        tellKinds();
        tellAlready();
        tellBad();
        rakes();
        most();
        mostKinds();
        first();
        needle();
        nothingChanges();
        DUE.end("ForesightTest");
    }

    private static void due(String call, long got, long want) {
        DUE.due(call, got, want);
    }

    private static void behind() {
        HayTalk hay = Due.laid("m123456789;m07;c0;k0;e0031;");
        for (int n : new int[] {-1, 41, Integer.MIN_VALUE, Integer.MAX_VALUE}) {
            due("16: behind " + n, hay.behind(n, 0, 0), HayTalk.BAD);
        }
        for (int m : new int[] {-1, 2, Integer.MIN_VALUE, Integer.MAX_VALUE}) {
            due("16: behind of " + m, hay.behind(1, m, 0), HayTalk.BAD);
        }
        for (int what : new int[] {-1, 2, Integer.MIN_VALUE, Integer.MAX_VALUE}) {
            due("16: behind, what " + what, hay.behind(1, 0, what), HayTalk.BAD);
        }
        due("16: behind 0", hay.behind(0, 0, 0), 0);
        due("16: behind 0", hay.behind(0, 0, 1), 0);
        due("16: behind 3", hay.behind(3, 0, 0), Due.set("123"));
        due("16: behind 3", hay.behind(3, 0, 1), 3);
        due("16: behind 40", hay.behind(40, 0, 1), 40);
        hay.pass(3);
        due("16: as it lies", hay.behind(0, 0, 0), Due.set("123"));
        due("16: more", hay.behind(2, 0, 0), Due.set("12345"));
        due("16: more of the other", hay.behind(1, 1, 0), Due.set("07"));
        due("16: wet", hay.behind(1, 1, 1), 4);
        hay.rake(0, 0, 0);
        due("16: behind a rake", hay.behind(2, 0, 0), Due.set("45"));
        hay.turn(1);
        due("16: behind a turn", hay.behind(8, 1, 1), 8);
        HayTalk wet = Due.laid("m1;c0;k0;e3;");
        due("16: at most", wet.behind(33, 0, 1), 99);
        due("16: at most", wet.behind(34, 0, 1), 99);
        due("16: at most", wet.behind(40, 0, 1), 99);
    }

    private static void burns() {
        HayTalk hay = Due.laid("m1;m2;c0;k0;k3;k9;e1;");
        for (int k : new int[] {-1, 3, Integer.MIN_VALUE, Integer.MAX_VALUE}) {
            due("17: burns " + k, hay.burns(k), HayTalk.BAD);
        }
        due("17: an empty one", hay.burns(0), HayTalk.NONE);
        hay.pass(1);
        hay.rake(0, 0, 0);
        due("17: 1 hotter each hour", hay.burns(0), 40);
        due("17: a thatched one", hay.burns(1), HayTalk.NONE);
        hay.pass(3);
        due("17: three hours on", hay.burns(0), 37);
        hay.rake(1, 1, 1);
        due("17: 4 less 3", hay.burns(1), 40);
        hay.pass(24);
        hay.pass(12);
        due("17: in the next", hay.burns(0), 1);
        due("17: not burnt by it", hay.rick(0, 1), 1);
        hay.pass(1);
        due("17: burnt already", hay.burns(0), HayTalk.NONE);
        due("17: burnt once", hay.rick(0, 3), 1);
        hay.rake(0, 0, 2);
        due("17: wet of 40 less 9", hay.burns(2), 2);
        HayTalk slowOne = Due.laid("m1;c0;k9;e2;");
        slowOne.pass(5);
        slowOne.rake(0, 0, 0);
        due("17: 1 hotter each hour", slowOne.burns(0), 40);
        // a wetter layer on top burns ahead of the one below
        slowOne.pass(19);
        slowOne.rake(0, 0, 0);
        due("17: the hottest to come", slowOne.burns(0), 2);
    }

    /** Each mower says its own number for ever, so that a layer of mowers a to b has just the words a to b. */
    private static HayTalk field(String cows) {
        return Due.laid("m0;m1;m2;m3;m4;" + cows + "k0;k0;k0;");
    }

    private static void layer(HayTalk hay, int k, int a, int b) {
        hay.pass(1);
        hay.rake(a, b, k);
    }

    private static void dueTell(HayTalk hay, int c, String words, int first, int second, int third) {
        int set = Due.set(words);
        due("18: tell " + words, hay.tell(c, set, -1), first + second + third);
        due("18: tell " + words + ", 0", hay.tell(c, set, 0), first);
        due("18: tell " + words + ", 1", hay.tell(c, set, 1), second);
        due("18: tell " + words + ", 2", hay.tell(c, set, 2), third);
    }

    private static void dueNoTell(HayTalk hay, int c, String words) {
        for (int k = -1; k <= 2; k++) {
            due("18: tell " + words + ", " + k, hay.tell(c, Due.set(words), k), HayTalk.NONE);
        }
    }

    private static void tell() {
        HayTalk hay = field("c0;");
        dueNoTell(hay, 0, "1");
        layer(hay, 0, 0, 0);
        layer(hay, 0, 1, 1);
        layer(hay, 0, 2, 2);
        layer(hay, 1, 3, 3);
        layer(hay, 1, 1, 2);
        layer(hay, 2, 4, 4);
        layer(hay, 2, 0, 1);
        dueTell(hay, 0, "2", 1, 0, 0);
        dueTell(hay, 0, "1", 0, 1, 0);
        dueTell(hay, 0, "12", 0, 1, 0);
        dueTell(hay, 0, "0", 0, 0, 1);
        dueTell(hay, 0, "01", 0, 0, 1);
        dueTell(hay, 0, "012", 1, 0, 1);
        dueTell(hay, 0, "3", 0, 2, 0);
        dueTell(hay, 0, "4", 0, 0, 2);
        dueTell(hay, 0, "34", 0, 2, 2);
        dueTell(hay, 0, "01234", 0, 2, 2);
        dueTell(hay, 0, "24", 1, 0, 2);
        dueNoTell(hay, 0, "5");
        dueNoTell(hay, 0, "05");
        HayTalk high = field("c0;");
        for (int k = 0; k < 3; k++) {
            layer(high, k, k, k);
            for (int i = 0; i < 7; i++) {
                layer(high, k, 4, 4);
            }
        }
        dueTell(high, 0, "0124", 8, 8, 8);
        dueTell(high, 0, "02", 8, 0, 8);
        dueTell(high, 0, "4", 1, 0, 0);
    }

    private static void tellFirst() {
        HayTalk hay = field("c0;");
        layer(hay, 0, 1, 1);
        layer(hay, 0, 0, 0);
        layer(hay, 1, 0, 0);
        layer(hay, 1, 1, 1);
        layer(hay, 2, 0, 0);
        layer(hay, 2, 1, 1);
        dueTell(hay, 0, "01", 2, 0, 0);
        dueTell(hay, 0, "1", 0, 1, 0);
        dueTell(hay, 0, "0", 1, 0, 0);
        HayTalk other = field("c0;");
        layer(other, 1, 1, 1);
        layer(other, 1, 0, 0);
        layer(other, 2, 0, 0);
        layer(other, 2, 1, 1);
        dueTell(other, 0, "01", 0, 2, 0);
        dueTell(other, 0, "0", 0, 1, 0);
        dueTell(other, 0, "1", 0, 0, 1);
        // more from rick 0 is first, even where it is fewer from rick 1
        HayTalk third = field("c0;");
        layer(third, 0, 2, 2);
        layer(third, 1, 1, 1);
        layer(third, 1, 2, 2);
        layer(third, 2, 1, 1);
        dueTell(third, 0, "12", 1, 0, 1);
    }

    private static void tellKinds() {
        HayTalk hay = field("c1;c2;c3;c0;");
        layer(hay, 0, 0, 3);
        layer(hay, 0, 3, 4);
        dueTell(hay, 0, "4", 1, 0, 0);
        dueTell(hay, 0, "024", 2, 0, 0);
        dueNoTell(hay, 0, "3");
        dueTell(hay, 1, "3", 1, 0, 0);
        dueTell(hay, 1, "03", 2, 0, 0);
        dueNoTell(hay, 1, "4");
        dueTell(hay, 2, "34", 1, 0, 0);
        dueNoTell(hay, 2, "0");
        dueTell(hay, 3, "01234", 2, 0, 0);
        // rick 0's come first, so what is more must lie deeper or in a later rick
        HayTalk full = field("c3;");
        layer(full, 0, 3, 3);
        layer(full, 1, 1, 1);
        layer(full, 2, 4, 4);
        dueTell(full, 0, "3", 1, 0, 0);
        dueTell(full, 0, "1", 0, 1, 0);
        dueNoTell(full, 0, "13");
        dueTell(full, 0, "34", 1, 0, 1);
        dueTell(full, 0, "14", 0, 1, 1);
        layer(full, 1, 0, 0);
        dueTell(full, 0, "01", 0, 2, 0);
        layer(full, 1, 1, 1);
        dueNoTell(full, 0, "01");
    }

    private static void tellAlready() {
        HayTalk hay = field("c0;c3;");
        layer(hay, 0, 0, 0);
        layer(hay, 0, 2, 3);
        layer(hay, 0, 2, 3);
        hay.cut(0, 0);
        hay.cut(0, 1);
        dueTell(hay, 0, "2", 0, 0, 0);
        dueTell(hay, 0, "23", 0, 0, 0);
        dueTell(hay, 0, "0", 1, 0, 0);
        dueTell(hay, 0, "02", 1, 0, 0);
        dueTell(hay, 1, "3", 0, 0, 0);
        dueNoTell(hay, 1, "0");
        layer(hay, 2, 1, 4);
        dueTell(hay, 1, "34", 0, 0, 1);
        dueNoTell(hay, 1, "1");
    }

    private static void tellBad() {
        HayTalk hay = Due.laid("m1;c0;c0;k0;k0;");
        for (int c : new int[] {-1, 2, Integer.MIN_VALUE, Integer.MAX_VALUE}) {
            due("18: tell cow " + c, hay.tell(c, 2, -1), HayTalk.BAD);
        }
        for (int set : new int[] {-1, 0, 1024, Integer.MIN_VALUE, Integer.MAX_VALUE}) {
            due("18: tell set " + set, hay.tell(0, set, -1), HayTalk.BAD);
        }
        for (int k : new int[] {-2, 2, Integer.MIN_VALUE, Integer.MAX_VALUE}) {
            due("18: tell from " + k, hay.tell(0, 2, k), HayTalk.BAD);
        }
        due("18: tell 1023", hay.tell(0, 1023, 1), HayTalk.NONE);
        hay.pass(1);
        hay.rake(0, 0, 1);
        due("18: BAD behind NONE", hay.tell(1, 2, 2), HayTalk.BAD);
        due("18: tell", hay.tell(1, 2, 1), 1);
    }

    private static void rakes() {
        HayTalk hay = Due.laid("m12;m23;m3;m14;c0;k0;");
        for (int set : new int[] {-1, 0, 1024, Integer.MIN_VALUE, Integer.MAX_VALUE}) {
            due("19: rakes " + set, hay.rakes(set), HayTalk.BAD);
        }
        due("19: nothing lies", hay.rakes(2), HayTalk.NONE);
        hay.pass(2);
        due("19: 3", hay.rakes(Due.set("3")), 22);
        due("19: 2", hay.rakes(Due.set("2")), 0);
        due("19: 1", hay.rakes(Due.set("1")), 0);
        due("19: 4", hay.rakes(Due.set("4")), 33);
        due("19: 123", hay.rakes(Due.set("123")), 1);
        due("19: 23", hay.rakes(Due.set("23")), 11);
        due("19: 34", hay.rakes(Due.set("34")), 23);
        due("19: 24", hay.rakes(Due.set("24")), 3);
        due("19: 13", hay.rakes(Due.set("13")), 1);
        due("19: 5", hay.rakes(Due.set("5")), HayTalk.NONE);
        due("19: 1023", hay.rakes(1023), HayTalk.NONE);
        hay.rake(0, 0, 0);
        due("19: 123 behind a rake", hay.rakes(Due.set("123")), 3);
        due("19: 3 with an empty swathe", hay.rakes(Due.set("3")), 22);
        due("19: 23 with an empty swathe", hay.rakes(Due.set("23")), 1);
        HayTalk alike = Due.laid("m1;m1;m2;c0;k0;");
        alike.pass(1);
        due("19: of several the first a", alike.rakes(2), 0);
        due("19: of several the first b", alike.rakes(6), 2);
        HayTalk last = Due.laid("m1;m2;m3;m4;m0;c0;k0;");
        last.pass(1);
        due("19: the last", last.rakes(1), 44);
        due("19: all", last.rakes(Due.set("01")), 4);
    }

    private static void dueMost(HayTalk hay, int c, int rick, int words) {
        due("20: most of " + c, hay.most(c, 0), rick);
        due("20: most of " + c + ", how many", hay.most(c, 1), words);
    }

    private static void most() {
        HayTalk hay = field("c0;c0;");
        for (int c : new int[] {-1, 2, Integer.MIN_VALUE, Integer.MAX_VALUE}) {
            due("20: most of " + c, hay.most(c, 0), HayTalk.BAD);
        }
        for (int what : new int[] {-1, 2, Integer.MIN_VALUE, Integer.MAX_VALUE}) {
            due("20: most, what " + what, hay.most(0, what), HayTalk.BAD);
        }
        dueMost(hay, 0, HayTalk.NONE, HayTalk.NONE);
        layer(hay, 2, 0, 1);
        dueMost(hay, 0, 2, 2);
        layer(hay, 1, 0, 1);
        dueMost(hay, 0, 1, 2);
        layer(hay, 1, 3, 3);
        dueMost(hay, 0, 2, 2);
        layer(hay, 0, 3, 4);
        dueMost(hay, 0, 0, 2);
        hay.cut(2, 0);
        layer(hay, 2, 0, 4);
        dueMost(hay, 0, 2, 3);
        dueMost(hay, 1, 2, 5);
        hay.cut(2, 0);
        // nothing new, but what is not empty is first
        dueMost(hay, 0, 0, 0);
        hay.cut(0, 1);
        dueMost(hay, 0, 1, 0);
        hay.heap(1, 2);
        dueMost(hay, 0, 2, 0);
    }

    private static void mostKinds() {
        HayTalk hay = field("c1;c2;c3;");
        layer(hay, 0, 1, 3);
        layer(hay, 1, 0, 2);
        layer(hay, 2, 3, 4);
        dueMost(hay, 0, 1, 2);
        dueMost(hay, 1, 0, 1);
        dueMost(hay, 2, 0, 3);
        hay.cut(0, 2);
        dueMost(hay, 2, 2, 1);
        hay.cut(2, 1);
        layer(hay, 0, 3, 3);
        dueMost(hay, 1, 1, 1);
    }

    private static void first() {
        HayTalk hay = Due.laid("m123;m5;m41;m000000007;c0;k0;");
        for (int w : new int[] {-1, 10, Integer.MIN_VALUE, Integer.MAX_VALUE}) {
            due("21: first " + w, hay.first(w, 0), HayTalk.BAD);
        }
        for (int what : new int[] {-1, 2, Integer.MIN_VALUE, Integer.MAX_VALUE}) {
            due("21: first, what " + what, hay.first(1, what), HayTalk.BAD);
        }
        dueFirst(hay, 1, 1, 0);
        dueFirst(hay, 2, 2, 0);
        dueFirst(hay, 3, 3, 0);
        dueFirst(hay, 4, 1, 2);
        dueFirst(hay, 5, 1, 1);
        dueFirst(hay, 7, 9, 3);
        dueFirst(hay, 0, 1, 3);
        dueFirst(hay, 6, HayTalk.NONE, HayTalk.NONE);
        hay.pass(1);
        dueFirst(hay, 1, 1, 2);
        dueFirst(hay, 4, 2, 2);
        dueFirst(hay, 7, 8, 3);
        hay.pass(2);
        // said by 0 and by 2 in the same hour
        dueFirst(hay, 1, 1, 0);
        hay.pass(1);
        dueFirst(hay, 1, 2, 2);
    }

    private static void dueFirst(HayTalk hay, int w, int hours, int who) {
        due("21: first " + w, hay.first(w, 0), hours);
        due("21: first " + w + ", who", hay.first(w, 1), who);
    }

    private static void dueNeedle(HayTalk hay, int w, int k, int above, int below) {
        due("22: needle " + w + " in " + k + ", above", hay.needle(w, k, 0), above);
        due("22: needle " + w + " in " + k + ", below", hay.needle(w, k, 1), below);
    }

    private static void needle() {
        HayTalk hay = field("c0;");
        for (int w : new int[] {-1, 10, Integer.MIN_VALUE, Integer.MAX_VALUE}) {
            due("22: needle " + w, hay.needle(w, 0, 0), HayTalk.BAD);
        }
        for (int k : new int[] {-1, 3, Integer.MIN_VALUE, Integer.MAX_VALUE}) {
            due("22: needle in " + k, hay.needle(0, k, 0), HayTalk.BAD);
        }
        for (int part : new int[] {-1, 2, Integer.MIN_VALUE, Integer.MAX_VALUE}) {
            due("22: needle, part " + part, hay.needle(0, 0, part), HayTalk.BAD);
        }
        dueNeedle(hay, 0, 0, HayTalk.NONE, HayTalk.NONE);
        layer(hay, 0, 0, 1);
        layer(hay, 0, 1, 1);
        layer(hay, 0, 0, 2);
        layer(hay, 1, 2, 2);
        layer(hay, 1, 0, 1);
        dueNeedle(hay, 0, 0, 2, 3);
        dueNeedle(hay, 0, 1, 1, 3);
        dueNeedle(hay, 0, 2, 0, 1);
        dueNeedle(hay, 1, 0, 3, 4);
        dueNeedle(hay, 1, 1, 1, 4);
        dueNeedle(hay, 2, 0, 3, 4);
        dueNeedle(hay, 2, 1, 1, 4);
        dueNeedle(hay, 3, 0, HayTalk.NONE, HayTalk.NONE);
        layer(hay, 2, 3, 3);
        dueNeedle(hay, 3, 2, 1, 1);
        dueNeedle(hay, 3, 0, 0, 1);
        hay.cut(2, 0);
        dueNeedle(hay, 3, 2, HayTalk.NONE, HayTalk.NONE);
        HayTalk high = field("c0;");
        for (int i = 0; i < 8; i++) {
            layer(high, 0, 0, 0);
            layer(high, 1, 0, 4);
            layer(high, 2, 4, 4);
        }
        dueNeedle(high, 0, 0, 1, 2);
        high.cut(0, 0);
        dueNeedle(high, 0, 0, 7, 16);
        dueNeedle(high, 0, 1, 9, 16);
    }

    private static void nothingChanges() {
        HayTalk hay = new HayTalk();
        hay.pass(5);
        hay.rake(0, 3, 1);
        hay.pass(1);
        hay.see(1, 2);
        String ahead = Standing.of(hay);
        hay.behind(40, 0, 1);
        hay.burns(1);
        hay.tell(0, 6, -1);
        hay.rakes(32);
        hay.most(0, 0);
        hay.first(7, 0);
        hay.needle(5, 1, 0);
        hay.which();
        hay.kinds(7, 7);
        hay.rain(0, 8, 5, 9, 0);
        hay.february(3, 60, 0);
        hay.fault();
        DUE.due("nothing changes", Standing.of(hay).equals(ahead) ? 1 : 0, 1);
    }
}
