/** Promises 10 to 15: hours, raking, cutting, turning, heaping, undoing. */
public final class ActsTest {
    private static final Due DUE = new Due();

    public static void main(String[] args) {
        pass();
        passByHeat();
        passToTheLast();
        rake();
        rakeTogether();
        rakeFull();
        cut();
        cutFullOfIt();
        turn();
        heap();
        heapFull();
        undo();
        undoOfEach();
        undoEight();
        refusedActs();
        DUE.end("ActsTest");
    }

    private static void due(String call, long got, long want) {
        DUE.due(call, got, want);
    }

    private static void pass() {
        HayTalk hay = Due.laid("m123;m7;c0;k0;e012;");
        for (int n : new int[] {0, -1, 25, Integer.MIN_VALUE, Integer.MAX_VALUE}) {
            due("10: pass " + n, hay.pass(n), HayTalk.BAD);
        }
        due("10: BAD changes nothing", hay.count(3), 0);
        due("10: pass 1", hay.pass(1), 1);
        due("10: lies", hay.mower(0, 1), Due.set("1"));
        due("10: dry hour", hay.mower(0, 2), 0);
        due("10: pass 1", hay.pass(1), 2);
        due("10: lies", hay.mower(0, 1), Due.set("12"));
        due("10: wet hour", hay.mower(0, 2), 1);
        due("10: pass 24", hay.pass(24), 26);
        due("10: lies", hay.mower(0, 1), Due.set("123"));
        due("10: lies", hay.mower(1, 1), Due.set("7"));
        due("10: wet", hay.mower(1, 2), 25);
        due("10: says next", hay.mower(0, 0), 3);
        due("10: each as wet", hay.mower(0, 2), 25);
    }

    /** A layer of wetness 8 under thatch 3 is 5 hotter each hour, and burns in its 8th, at 40. */
    private static void passByHeat() {
        HayTalk hay = Due.laid("m1;m2;c0;k3;k8;k9;e2;");
        hay.pass(4);
        hay.rake(0, 0, 0);
        hay.rake(1, 1, 1);
        for (int hour = 1; hour <= 7; hour++) {
            due("10: pass", hay.pass(1), 4 + hour);
            due("10: hot", hay.rick(0, 2), 5 * hour);
            due("10: as wet as thatched", hay.rick(1, 2), 0);
        }
        hay.pass(1);
        due("10: burnt at 40", hay.rick(0, 3), 1);
        due("10: empty", hay.rick(0, 1), 0);
        due("10: what does not burn", hay.rick(1, 1), 1);
        // the swathe of the hour in which a rick burns is not in it
        due("10: the swathe", hay.mower(0, 2), 16);
        hay.turn(1);
        hay.rake(1, 1, 2);
        hay.pass(24);
        due("10: a dry layer is never hot", hay.layer(2, 0, 2), 0);
        // one hot layer burns the whole rick, and the heat counts ahead of the word
        HayTalk other = Due.laid("m1;c0;k0;e3;");
        other.pass(13);
        other.rake(0, 0, 0);
        other.pass(1);
        due("10: 39 is not 40", other.rick(0, 2), 39);
        other.turn(0);
        other.rake(0, 0, 0);
        due("10: two layers", other.rick(0, 1), 2);
        other.pass(1);
        due("10: both burn", other.rick(0, 1), 0);
        due("10: one fire", other.rick(0, 3), 1);
    }

    private static void passToTheLast() {
        HayTalk hay = Due.laid("m12;c0;k0;");
        for (int i = 1; i <= 41; i++) {
            due("10: pass 24", hay.pass(24), 24 * i);
        }
        due("10: pass beyond 999", hay.pass(16), HayTalk.NO);
        due("10: NO changes nothing", hay.count(3), 984);
        due("10: BAD ahead of NO", hay.pass(25), HayTalk.BAD);
        due("10: pass to 999", hay.pass(15), 999);
        due("10: pass beyond 999", hay.pass(1), HayTalk.NO);
        due("10: pass beyond 999", hay.pass(24), HayTalk.NO);
        due("10: the word behind 999", hay.mower(0, 0), 2);
        due("10: eight to undo", hay.count(8), 8);
        due("16: behind goes on", hay.behind(40, 0, 0), Due.set("12"));
        due("28: february goes on", hay.february(1, 60, 0) >= 0 ? 1 : 0, 1);
        hay.rake(0, 0, 0);
        due("17: burns goes on", hay.burns(0), HayTalk.NONE);
        due("21: first goes on", hay.first(1, 0), 2);
    }

    private static void rake() {
        HayTalk hay = Due.laid("m1;m2;m3;c0;k0;k0;");
        due("11: nothing lies", hay.rake(0, 2, 0), HayTalk.NO);
        hay.pass(1);
        due("11: b below a", hay.rake(1, 0, 0), HayTalk.BAD);
        due("11: a -1", hay.rake(-1, 0, 0), HayTalk.BAD);
        due("11: b 3", hay.rake(0, 3, 0), HayTalk.BAD);
        due("11: a and b 3", hay.rake(3, 3, 0), HayTalk.BAD);
        due("11: rick 2", hay.rake(0, 0, 2), HayTalk.BAD);
        due("11: rick -1", hay.rake(0, 0, -1), HayTalk.BAD);
        due("11: the most", hay.rake(Integer.MIN_VALUE, Integer.MAX_VALUE, Integer.MAX_VALUE), HayTalk.BAD);
        due("11: rake", hay.rake(1, 1, 1), 1);
        due("11: rake again", hay.rake(1, 1, 1), HayTalk.NO);
        due("11: rake with an empty one", hay.rake(0, 1, 1), 2);
        due("11: layer", hay.layer(1, 1, 0), Due.set("1"));
        due("11: the third still lies", hay.mower(2, 1), Due.set("3"));
        due("11: rake the other rick", hay.rake(0, 2, 0), 1);
        due("11: BAD ahead of NO", hay.rake(0, 2, 2), HayTalk.BAD);
        due("11: NO", hay.rake(0, 2, 1), HayTalk.NO);
    }

    private static void rakeTogether() {
        HayTalk hay = Due.laid("m1;m2;m3;c0;k9;e3;");
        hay.pass(24);
        hay.turn(0);
        hay.pass(1);
        due("11: rake", hay.rake(0, 1, 0), 1);
        due("11: words together", hay.layer(0, 0, 0), Due.set("12"));
        due("11: wet together", hay.layer(0, 0, 1), 78);
        due("11: not hot", hay.layer(0, 0, 2), 0);
        for (int m = 0; m <= 1; m++) {
            due("11: empty swathe", hay.mower(m, 1), 0);
            due("11: dry swathe", hay.mower(m, 2), 0);
        }
        due("11: the other swathe", hay.mower(2, 1), Due.set("3"));
        due("11: the other swathe", hay.mower(2, 2), 75);
        hay.pass(24);
        due("11: rake 99 and 72", hay.rake(1, 2, 0), 1);
        due("11: wet at most", hay.layer(0, 0, 1), 99);
    }

    private static void rakeFull() {
        HayTalk hay = Due.laid("m1;m2;c0;k0;k0;");
        for (int i = 1; i <= 8; i++) {
            hay.pass(1);
            due("11: rake", hay.rake(0, 0, 0), i);
        }
        due("11: NO ahead of FULL", hay.rake(0, 0, 0), HayTalk.NO);
        due("11: FULL", hay.rake(0, 1, 0), HayTalk.FULL);
        due("11: BAD ahead of FULL", hay.rake(1, 0, 0), HayTalk.BAD);
        due("11: FULL changes nothing", hay.mower(1, 1), Due.set("2"));
        due("11: FULL changes nothing", hay.rick(0, 1), 8);
        hay.cut(0, 0);
        due("11: no more FULL", hay.rake(0, 1, 0), 8);
    }

    private static void cut() {
        HayTalk hay = Due.laid("m12348;m58;c0;c1;c2;c3;k0;k0;");
        due("12: an empty rick", hay.cut(0, 0), HayTalk.NO);
        due("12: BAD ahead of NO", hay.cut(0, 4), HayTalk.BAD);
        due("12: rick 2", hay.cut(2, 0), HayTalk.BAD);
        due("12: rick -1", hay.cut(-1, 0), HayTalk.BAD);
        due("12: cow -1", hay.cut(0, -1), HayTalk.BAD);
        due("12: the most", hay.cut(Integer.MAX_VALUE, Integer.MIN_VALUE), HayTalk.BAD);
        for (int c = 0; c < 4; c++) {
            hay.pass(5);
            hay.rake(1, 1, 1);
            hay.rake(0, 0, 1);
        }
        int[] firstTold = {Due.set("12348"), Due.set("248"), Due.set("1"), Due.set("12348")};
        int[] thenTold = {Due.set("5"), 0, Due.set("5"), 0};
        for (int c = 0; c < 4; c++) {
            due("12: cut for " + c, hay.cut(1, c), firstTold[c]);
            due("12: told " + c, hay.cow(c, 1), firstTold[c]);
            due("12: layers", hay.rick(1, 1), 7 - 2 * c);
            due("12: cut again for " + c, hay.cut(1, c), thenTold[c]);
            due("12: told " + c, hay.cow(c, 1), firstTold[c] | thenTold[c]);
            due("12: layers", hay.rick(1, 1), 6 - 2 * c);
        }
        due("12: the rick is empty", hay.cut(1, 0), HayTalk.NO);
        hay.pass(1);
        hay.rake(0, 0, 0);
        due("12: nothing new", hay.cut(0, 0), 0);
        due("12: but it is cut", hay.rick(0, 1), 0);
    }

    private static void cutFullOfIt() {
        HayTalk hay = Due.laid("m0;m3;m5;m59;c3;k0;");
        hay.pass(1);
        hay.rake(0, 0, 0);
        due("12: 0 as the first", hay.cut(0, 0), Due.set("0"));
        hay.pass(1);
        hay.rake(0, 1, 0);
        due("12: more than 0", hay.cut(0, 0), Due.set("3"));
        hay.rake(2, 3, 0);
        due("12: more than 3", hay.cut(0, 0), Due.set("59"));
        hay.pass(2);
        hay.rake(0, 3, 0);
        due("12: none is more than 9", hay.cut(0, 0), 0);
        due("12: told in all", hay.cow(0, 1), Due.set("0359"));
    }

    private static void turn() {
        HayTalk hay = Due.laid("m1;m2;c0;k0;e2;");
        due("13: dry at first", hay.turn(0), HayTalk.NO);
        for (int m : new int[] {-1, 2, Integer.MIN_VALUE, Integer.MAX_VALUE}) {
            due("13: turn " + m, hay.turn(m), HayTalk.BAD);
        }
        hay.pass(3);
        due("13: turn", hay.turn(0), 6);
        due("13: dry", hay.mower(0, 2), 0);
        due("13: it lies as it lay", hay.mower(0, 1), Due.set("1"));
        due("13: the other is wet", hay.mower(1, 2), 6);
        due("13: turn what is dry", hay.turn(0), HayTalk.NO);
        due("13: NO is nothing to undo", hay.count(8), 2);
        hay.pass(1);
        due("13: turn again", hay.turn(0), 2);
    }

    private static void heap() {
        HayTalk hay = Due.laid("m123;m8;c0;k0;k1;k9;e1;");
        due("14: an empty one", hay.heap(0, 1), HayTalk.NO);
        due("14: alike", hay.heap(0, 0), HayTalk.BAD);
        due("14: j 3", hay.heap(3, 0), HayTalk.BAD);
        due("14: k 3", hay.heap(0, 3), HayTalk.BAD);
        due("14: j -1", hay.heap(-1, 0), HayTalk.BAD);
        due("14: k -1", hay.heap(0, -1), HayTalk.BAD);
        due("14: the most", hay.heap(Integer.MAX_VALUE, Integer.MIN_VALUE), HayTalk.BAD);
        hay.pass(1);
        hay.rake(0, 0, 0);
        hay.pass(1);
        hay.rake(0, 1, 0);
        hay.pass(1);
        hay.rake(0, 0, 1);
        due("14: heap", hay.heap(0, 1), 3);
        due("14: j is empty", hay.rick(0, 1), 0);
        due("14: j again", hay.heap(0, 1), HayTalk.NO);
        int[][] layers = {{Due.set("3"), 1, 0}, {Due.set("1"), 1, 2}, {Due.set("28"), 3, 3}};
        for (int i = 0; i < 3; i++) {
            for (int what = 0; what <= 2; what++) {
                due("14: layer " + i, hay.layer(1, i, what), layers[i][what]);
            }
        }
        due("14: on an empty one", hay.heap(1, 2), 3);
        due("14: as they are", hay.layer(2, 2, 2), 3);
        hay.pass(1);
        due("14: the new thatch", hay.layer(2, 2, 2), 3);
        due("14: the top is cut first", hay.cut(2, 0), Due.set("28"));
    }

    private static void heapFull() {
        HayTalk hay = Due.laid("m1;m2;c0;k0;k0;");
        for (int i = 0; i < 5; i++) {
            hay.pass(1);
            hay.rake(0, 0, 0);
            if (i < 4) {
                hay.rake(1, 1, 1);
            }
        }
        due("14: 9 are too many", hay.heap(0, 1), HayTalk.FULL);
        due("14: 9 are too many", hay.heap(1, 0), HayTalk.FULL);
        due("14: FULL changes nothing", hay.count(4), 9);
        due("14: BAD ahead of FULL", hay.heap(0, 2), HayTalk.BAD);
        hay.cut(0, 0);
        due("14: 8 are not", hay.heap(0, 1), 8);
        due("14: NO ahead of FULL", hay.heap(0, 1), HayTalk.NO);
        due("14: the lowest", hay.layer(1, 3, 0), Due.set("2"));
        due("14: put on it", hay.layer(1, 4, 0), Due.set("1"));
    }

    private static void undo() {
        HayTalk hay = Due.laid("m12;c0;k0;e1;");
        due("15: nothing to undo", hay.undo(), HayTalk.NO);
        hay.pass(7);
        hay.pass(2);
        due("15: undo of two hours", hay.undo(), 1);
        due("15: hours", hay.count(3), 7);
        due("15: word", hay.mower(0, 0), 2);
        due("15: wet", hay.mower(0, 2), 7);
        due("15: undo of seven", hay.undo(), 0);
        due("15: hours", hay.count(3), 0);
        due("15: swathe", hay.mower(0, 1), 0);
        due("15: nothing more", hay.undo(), HayTalk.NO);
        due("15: hours go by again", hay.pass(1), 1);
        due("15: to undo", hay.count(8), 1);
    }

    private static void undoOfEach() {
        HayTalk hay = Due.laid("m12;m3;c0;k0;k9;e2;");
        hay.pass(2);
        hay.rake(0, 1, 0);
        due("15: undo of a rake", hay.undo(), 1);
        due("15: swathe", hay.mower(0, 1), Due.set("12"));
        due("15: swathe wet", hay.mower(1, 2), 4);
        due("15: rick", hay.rick(0, 1), 0);
        hay.rake(0, 0, 0);
        hay.cut(0, 0);
        due("15: undo of a cut", hay.undo(), 2);
        due("15: told", hay.cow(0, 1), 0);
        due("15: layer", hay.layer(0, 0, 0), Due.set("12"));
        due("15: layer wet", hay.layer(0, 0, 1), 4);
        hay.turn(1);
        due("15: undo of a turn", hay.undo(), 2);
        due("15: wet", hay.mower(1, 2), 4);
        hay.heap(0, 1);
        due("15: undo of a heap", hay.undo(), 2);
        due("15: rick 0", hay.rick(0, 1), 1);
        due("15: rick 1", hay.rick(1, 1), 0);
        hay.pass(20);
        due("15: burnt", hay.rick(0, 3), 1);
        due("15: undo of a fire", hay.undo(), 2);
        due("15: not burnt", hay.rick(0, 3), 0);
        due("15: the layer is there", hay.rick(0, 1), 1);
        due("15: as hot as it was", hay.rick(0, 2), 0);
        hay.pass(4);
        hay.rake(1, 1, 1);
        hay.cut(1, 0);
        hay.rake(0, 0, 1);
        due("15: undo of a layer over a cut one", hay.undo(), 5);
        due("15: undo of the cut", hay.undo(), 4);
        due("15: the cut layer is back", hay.layer(1, 0, 0), Due.set("3"));
        due("15: as wet as it was", hay.layer(1, 0, 1), 12);
    }

    private static void undoEight() {
        HayTalk hay = Due.laid("m123456789;c0;k0;");
        for (int i = 1; i <= 19; i++) {
            hay.pass(1);
            due("15: to undo", hay.count(8), Math.min(8, i));
        }
        for (int more = 7; more >= 0; more--) {
            due("15: undo", hay.undo(), more);
            due("15: hours", hay.count(3), 11 + more);
        }
        due("15: the ninth", hay.undo(), HayTalk.NO);
        due("15: hours stay", hay.count(3), 11);
        hay.pass(2);
        hay.pass(3);
        due("15: undo", hay.undo(), 1);
        due("15: hours", hay.count(3), 13);
        hay.see(1, 1);
        due("15: what is seen is no act", hay.count(8), 1);
        due("15: undo", hay.undo(), 0);
        due("15: what is seen stays", hay.count(7), 1);
        hay.write('m');
        hay.keep();
        due("15: nor are writing and keeping", hay.undo(), HayTalk.NO);
    }

    private static void refusedActs() {
        HayTalk hay = Due.laid("m1;c0;k0;k0;");
        hay.pass(0);
        hay.rake(0, 0, 0);
        hay.cut(0, 0);
        hay.turn(0);
        hay.heap(0, 1);
        due("15: refused acts are none", hay.count(8), 0);
        due("15: refused acts are none", hay.undo(), HayTalk.NO);
    }
}
