import java.util.ArrayList;
import java.util.List;

/** What the tests that go through the document's sentences have in common. */
abstract class Sentences {
    static final String NO_PLACE = "throws.IndexOutOfBoundsException";
    static final String NO_ARGUMENT = "throws.IllegalArgumentException";
    static final String NO_STATE = "throws.IllegalStateException";
    static final int LEAST = Integer.MIN_VALUE;
    static final int MOST = Integer.MAX_VALUE;

    static final int ROLLS = 3;
    static final int ROWS = 6;
    static final int ROLL_COLUMNS = 16;
    static final int COLUMNS = 12;
    static final int FIGURES = 4;

    static final Check CHECK = new Check();
    private static String sentence = "";

    /** Changes made to an object. */
    interface Steps {
        void take(NoteWatermarks x);
    }

    /** Tells which words of the document the answers from here on are about. */
    static void about(String words) {
        sentence = words;
    }

    static void due(Object want, Check.Call call) {
        String got = Check.outcome(call);
        boolean isDue = got.equals(String.valueOf(want));
        CHECK.due(isDue ? "" : "\"" + sentence + "\" (" + placeInTest() + ")", want, got);
    }

    static void dueThat(boolean holds) {
        CHECK.dueThat(holds ? "" : "\"" + sentence + "\" (" + placeInTest() + ")", holds);
    }

    private static String placeInTest() {
        return StackWalker.getInstance().walk(frames -> frames
                .filter(frame -> frame.getClassName().endsWith("Test"))
                .findFirst().map(frame -> frame.getFileName() + ":" + frame.getLineNumber()).orElse(""));
    }

    static void type(NoteWatermarks x, String text) {
        for (int i = 0; i < text.length(); i++) {
            x.append(text.charAt(i));
        }
    }

    /** A new object with a text in its buffer. */
    static NoteWatermarks typed(String text) {
        NoteWatermarks x = new NoteWatermarks();
        type(x, text);
        return x;
    }

    /** A new object behind some changes. */
    static NoteWatermarks behind(Steps steps) {
        NoteWatermarks x = new NoteWatermarks();
        steps.take(x);
        return x;
    }

    /** That calls with wrong arguments answer so, and change nothing. */
    static void refused(NoteWatermarks x, String want, Check.Call... calls) {
        long before = x.digest();
        for (Check.Call call : calls) {
            due(want, call);
        }
        due(before, x::digest);
    }

    /**
     * All that can be seen of an object behind some changes: its digest and
     * those of its saved states, its buffer, and each of its wires. It takes
     * two objects, as the looks at the wires are changes too.
     */
    static List<Long> everything(Steps steps) {
        List<Long> seen = new ArrayList<>();
        NoteWatermarks x = behind(steps);
        seen.add(x.digest());
        for (int left = x.count(8); left > 0; left--) {
            seen.add((long) x.undo());
            seen.add(x.digest());
        }
        seen.add((long) x.clearBuffer());
        seen.addAll(wires(behind(steps)));
        return seen;
    }

    /** The wires of all rolls, those that do not touch the paper too; they are 0 then. */
    static List<Long> wires(NoteWatermarks x) {
        List<Long> seen = new ArrayList<>();
        for (int roll = 0; roll < ROLLS; roll++) {
            for (int row = 0; row < ROWS; row++) {
                for (int column = 0; column < ROLL_COLUMNS; column++) {
                    seen.add(x.wire(roll, row, column, 0) - 100L);
                }
            }
        }
        return seen;
    }

    /** Something of everything: wires that touch the paper or not, ink, figures, settings, a text. */
    static void busy(NoteWatermarks x) {
        type(x, "00a+3*4;01h-2*9;12c+1*5;15j-3*3;23f+2;24p-1;05n+3");
        x.bend();
        x.size(1, 7);
        x.turn(1, 5);
        x.size(2, 13);
        x.ink(0, 0, 4, 7, 2);
        x.ink(2, 5, 2, 3, 9);
        x.figure(0, 0, 0, 2, 2);
        x.figure(2, 1, 8, 3, 2);
        x.figure(3, 2, 4, 2, 5);
        x.set(0, 5);
        x.set(1, 17);
        x.set(2, 1);
        x.turn(0, 3);
        type(x, "00a+1;9~");
    }
}
