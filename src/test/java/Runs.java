import java.util.regex.Matcher;
import java.util.regex.Pattern;

/**
 * Runs of calls, told in one line: "24*pass(1) rake(0,0,1)=1 layer(0,0,0)={12} cut(1,0)=NO".
 * A call with = tells the answer that is due, {..} is a set of WORDS, a number ahead of * says how often.
 */
final class Runs {
    private static final Pattern CALL = Pattern.compile("(?:(\\d+)\\*)?([^=]+)(?:=(\\S+))?");
    private static final int MOST_CALLS = 512;

    private final Due due;
    private String sentence = "";

    Runs(Due due) {
        this.due = due;
    }

    /** The sentence of the document that the runs behind it hold to. */
    void sentence(String words) {
        sentence = words;
    }

    /** On a new object, with its first land. */
    void onNew(String calls) {
        on(new HayTalk(), 0, calls);
    }

    /** On a new object on which the text is laid. */
    void onLaid(String text, String calls) {
        on(Due.laid(text), text.length() + 1, calls);
    }

    void fault(String text, int want) {
        due.due(sentence + ": fault of '" + text + "'", Due.written(text).fault(), want);
    }

    /** On an object on which so many calls were made already: how many were made by then. */
    int on(HayTalk hay, int made, String calls) {
        int count = made;
        for (String call : calls.trim().split("\\s+")) {
            Matcher told = CALL.matcher(call);
            if (!told.matches()) {
                throw new IllegalArgumentException(call);
            }
            int times = told.group(1) == null ? 1 : Integer.parseInt(told.group(1));
            for (int i = 0; i < times; i++) {
                int got = Calls.answerTold(hay, told.group(2));
                if (told.group(3) != null) {
                    due.due(sentence + ": " + call + " in " + calls, got, Calls.number(told.group(3)));
                }
            }
            count += times;
        }
        // what a call behind these answers is free, so a run that is longer shows nothing
        due.due(sentence + ": more calls than " + MOST_CALLS, Math.max(MOST_CALLS, count), MOST_CALLS);
        return count;
    }
}
