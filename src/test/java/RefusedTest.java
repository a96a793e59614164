/**
 * "Of several the first in this order, whatever the order at a call; nothing changes then": each refused call, and each
 * that only tells, is made on one of two objects that were used alike, and these must stand alike behind it.
 */
public final class RefusedTest {
    private static final Due DUE = new Due();
    private static final Runs RUNS = new Runs(DUE);

    private static final String BAD_CALLS = "write(31) write(127) write(MIN) mower(-1,0) mower(5,0) mower(0,3) cow(-1,0) cow(4,0) "
        + "cow(0,2) rick(-1,0) rick(3,0) rick(0,4) layer(0,8,0) layer(3,0,0) layer(0,-1,0) layer(0,0,3) pass(0) pass(25) pass(-1) "
        + "pass(MAX) rake(1,0,0) rake(0,5,0) rake(-1,0,0) rake(0,0,3) rake(0,0,-1) cut(3,0) cut(-1,0) cut(0,4) cut(0,-1) turn(-1) "
        + "turn(5) heap(0,0) heap(1,1) heap(0,3) heap(3,0) heap(-1,0) heap(0,-1) behind(-1,0,0) behind(41,0,0) behind(0,5,0) "
        + "behind(0,0,2) burns(-1) burns(3) tell(-1,1,0) tell(4,1,0) tell(0,0,0) tell(0,1024,0) tell(0,1,-2) tell(0,1,3) rakes(0) "
        + "rakes(1024) rakes(-1) most(-1,0) most(4,0) most(0,2) first(-1,0) first(10,0) first(0,2) needle(-1,0,0) needle(10,0,0) "
        + "needle(0,3,0) needle(0,0,2) see(-1,0) see(10,0) see(0,-1) see(0,100) kinds(-1,0) kinds(1024,0) kinds(0,1024) "
        + "rain(-1,0,0,0,0) rain(5,0,0,0,0) rain(0,9,0,0,0) rain(0,0,11,0,0) rain(0,0,0,100,0) rain(0,0,0,0,2) february(-1,1,0) "
        + "february(10000,1,0) february(0,0,0) february(0,61,0) february(0,1,3) count(-1) count(11)";

    private static final String TELLING_CALLS = "fault() mower(0,0) mower(0,1) mower(0,2) cow(0,0) cow(0,1) rick(0,0) rick(0,1) "
        + "rick(0,2) rick(0,3) layer(0,0,0) layer(0,0,1) layer(0,0,2) behind(0,0,0) behind(40,0,0) behind(40,0,1) burns(0) "
        + "tell(0,1,-1) tell(0,2,0) tell(0,1023,-1) rakes(1) rakes(2) rakes(1023) most(0,0) most(0,1) first(1,0) first(1,1) "
        + "needle(1,0,0) needle(1,0,1) which() kinds(1,1) rain(0,8,5,9,0) rain(0,0,0,0,1) february(0,60,0) february(9999,60,1) "
        + "february(16,1,2) count(3)";

    public static void main(String[] args) {
        String text = "m12;m3;c0;c3;k0;k9;e1;";
        nothingChanges("", "", "undo()=NO back()=NO lay()=NO rake(0,0,0)=NO rake(0,3,2)=NO cut(0,0)=NO turn(0)=NO heap(0,1)=NO");
        nothingChanges("", "write(109) write(49) pass(3) rake(0,0,0) pass(3) turn(0) see(1,1) keep() pass(1)",
            "lay()=NO rake(0,0,3)=BAD cut(1,0)=NO heap(1,0)=NO heap(2,1)=NO");
        nothingChanges(text, "write(120) pass(2) rake(0,0,0) pass(5) rake(0,1,1) pass(1) cut(1,1) see(1,0) keep() pass(2) keep() "
            + "heap(0,1) pass(1) rake(1,1,0) turn(0) pass(24) rake(0,0,1)", "lay()=NO rake(0,0,0)=NO turn(0)=NO keep()=FULL");
        nothingChanges(text, "pass(1) rake(0,0,0) pass(1) rake(0,0,0) pass(1) rake(0,0,0) pass(1) rake(0,0,0) pass(1) rake(0,0,1) "
            + "pass(1) rake(0,0,1) pass(1) rake(0,0,1) pass(1) rake(0,0,1) cut(0,0) undo() pass(1) rake(0,0,1)",
            "heap(0,1)=FULL heap(1,0)=FULL rake(0,0,0)=NO rake(0,0,1)=NO");
        nothingChanges(text, "turn(0) 8*see(1,1) pass(1) rake(0,0,1) pass(1) rake(0,0,1) pass(1) rake(0,0,1) pass(1) rake(0,0,1) "
            + "pass(1) rake(0,0,1) pass(1) rake(0,0,1) pass(1) rake(0,0,1) pass(1) rake(0,0,1) pass(1)",
            "rake(0,0,1)=FULL rake(0,1,1)=FULL see(1,1)=FULL see(0,0)=FULL heap(0,1)=NO cut(0,0)=NO back()=NO");
        nothingChanges("m1;c0;k0;k0;", "180*write(32) 9*write(59)", "write(32)=FULL write(126)=FULL write(59)=FULL lay()=NO");
        nothingChanges(text, "41*pass(24) pass(15) rake(0,1,1) cut(1,0)",
            "pass(1)=NO pass(24)=NO rake(0,1,0)=NO cut(1,0)=NO cut(0,1)=NO heap(1,0)=NO turn(1)=NO");
        nothingChanges(text, "pass(3) rake(0,0,0) keep() pass(3) rake(0,0,1) pass(1) keep() cut(0,0) pass(4) undo() undo() back()",
            "undo()=NO cut(2,0)=BAD rake(1,0,1)=BAD");
        refusedFirst();
        DUE.end("RefusedTest");
    }

    /** Each of the calls on an object of its own, which was used as told. */
    private static void nothingChanges(String text, String calls, String refused) {
        String ahead = Standing.usedUp(used(text, calls));
        for (String call : BAD_CALLS.split(" ")) {
            HayTalk hay = used(text, calls);
            DUE.due(call + " behind " + calls, Calls.answerTold(hay, call), HayTalk.BAD);
            dueStanding(hay, ahead, call + " behind " + calls);
        }
        for (String call : refused.split(" ")) {
            HayTalk hay = used(text, calls);
            RUNS.sentence("refused behind " + calls);
            RUNS.on(hay, 0, call);
            dueStanding(hay, ahead, call + " behind " + calls);
        }
        for (String call : TELLING_CALLS.split(" ")) {
            HayTalk hay = used(text, calls);
            Calls.answerTold(hay, call);
            dueStanding(hay, ahead, call + " behind " + calls);
        }
    }

    private static HayTalk used(String text, String calls) {
        HayTalk hay = text.isEmpty() ? new HayTalk() : Due.laid(text);
        if (!calls.isEmpty()) {
            RUNS.on(hay, text.length() + 1, calls);
        }
        return hay;
    }

    private static void dueStanding(HayTalk hay, String ahead, String call) {
        String then = Standing.usedUp(hay);
        DUE.due("nothing changes by " + call, then.equals(ahead) ? 1 : 0, 1);
    }

    private static void refusedFirst() {
        RUNS.sentence("BAD, NO, NONE, FULL: of several the first in this order, whatever the order at a call");
        RUNS.onNew("200*write(59) write(59)=FULL write(31)=BAD write(127)=BAD");
        RUNS.onNew("41*pass(24) pass(15)=999 pass(1)=NO pass(0)=BAD pass(25)=BAD");
        RUNS.onLaid("m1;m2;c0;k0;k0;", "rake(1,0,0)=BAD rake(0,0,2)=BAD rake(0,2,0)=BAD rake(0,1,0)=NO");
        RUNS.onLaid("m1;m2;c0;k0;k0;", "pass(1) rake(0,0,0) pass(1) rake(0,0,0) pass(1) rake(0,0,0) pass(1) rake(0,0,0) pass(1) "
            + "rake(0,0,0) pass(1) rake(0,0,0) pass(1) rake(0,0,0) pass(1) rake(0,0,0)=8 rake(0,0,0)=NO rake(0,1,0)=FULL "
            + "rake(1,0,0)=BAD heap(1,0)=NO heap(0,0)=BAD heap(0,2)=BAD rake(1,1,1)=1 heap(1,0)=FULL heap(0,1)=FULL heap(1,1)=BAD "
            + "heap(1,2)=BAD");
        RUNS.onLaid("m1;m2;c0;k0;k0;", "cut(0,0)=NO cut(0,1)=BAD cut(2,0)=BAD turn(0)=NO turn(2)=BAD");
        RUNS.onLaid("m1;m2;c0;k0;k0;", "burns(0)=NONE burns(2)=BAD tell(0,1,0)=NONE tell(1,1,0)=BAD tell(0,0,0)=BAD tell(0,1,2)=BAD "
            + "rakes(1)=NONE rakes(0)=BAD most(0,0)=NONE most(1,0)=BAD most(0,2)=BAD first(5,0)=NONE first(10,0)=BAD first(5,2)=BAD "
            + "needle(5,0,0)=NONE needle(10,0,0)=BAD needle(5,2,0)=BAD needle(5,0,2)=BAD");
        RUNS.onNew("6*see(0,0) see(0,0)=FULL see(10,0)=BAD see(0,100)=BAD");
    }
}
