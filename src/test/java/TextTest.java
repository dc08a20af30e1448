/** The section "The input text" and the promises 10 to 13: what may stand where, and how long a text may be. */
public final class TextTest extends Sentences {
    private static final String LETTERS = "abcdefghijklmnop";

    /** Beginnings of wires as a text, and all characters that may come next. */
    private static final String[][] BEGINNINGS = {
        {"", "012"},
        {"0", "012345"}, {"1", "012345"}, {"2", "012345"},
        {"00", LETTERS}, {"05", LETTERS}, {"25", LETTERS},
        {"00a", "+-"}, {"00p", "+-"}, {"15h", "+-"},
        {"00a+", "0123"}, {"00a-", "0123"}, {"25p-", "0123"},
        {"00a+0", "*;"}, {"00a-0", "*;"}, {"25p+3", "*;"}, {"25p-3", "*;"},
        {"00a+1*", "23456789"}, {"25p-3*", "23456789"},
        {"00a+1*2", ";"}, {"00a+1*9", ";"}, {"25p-3*9", ";"},
        {"00a+1;", "012"}, {"00a+1*2;", "012"},
        {"00a+1;2", "012345"}, {"00a+1;25", LETTERS}, {"00a+1;25p", "+-"}, {"00a+1;25p-", "0123"},
        {"00a+1;25p-3", "*;"}, {"00a+1*9;25p-3*", "23456789"}, {"00a+1*9;25p-3*9", ";"},
        {"00a+1;11b+2;", "012"}, {"00a+1*2;11b+2*3;22c-3*4", ";"}};

    private static boolean isComplete(String next) {
        return next.equals("*;") || next.equals(";");
    }

    private static void whatMayComeNext() {
        about("Wires as a text are one or more parts with \";\" between them, each a roll, 0 to 2, a row, 0 to 5, "
                + "a column as a letter \"a\" to \"p\" (0 to 15), \"+\" or \"-\", and 0 to 3, perhaps followed by "
                + "\"*\" and how many columns .., 2 to 9");
        for (String[] beginning : BEGINNINGS) {
            String before = beginning[0];
            due(before.length(), () -> typed(before).firstError());
            for (char code = 33; code <= 126; code++) {
                String text = before + code;
                boolean isRight = beginning[1].indexOf(code) >= 0;
                due(isRight ? text.length() : before.length(), () -> typed(text).firstError());
            }
        }
    }

    private static void firstOfSeveral() {
        about("Finds the first syntax error of the buffer");
        for (String[] beginning : BEGINNINGS) {
            String before = beginning[0];
            due(before.length(), () -> typed(before + "~").firstError());
            due(before.length(), () -> typed(before + "~~").firstError());
            due(before.length(), () -> typed(before + "~" + before).firstError());
            due(before.length(), () -> typed(before + "!00a+1;00a+1").firstError());
        }
    }

    private static void noError() {
        about("the length of the buffer if there is none");
        due(0, () -> new NoteWatermarks().firstError());
        due(1, () -> typed("0").firstError());
        due(5, () -> typed("00a+0").firstError());
        NoteWatermarks x = typed("~");
        due(0, x::firstError);
        due(0, x::firstError);
        x.clearBuffer();
        due(0, x::firstError);
        x.append('2');
        due(1, x::firstError);
        for (int length = 0; length <= 60; length++) {
            String text = "25p-3*9;00a+0;".repeat(5).substring(0, length);
            due(length, () -> typed(text).firstError());
        }
    }

    private static void ofAnyLength() {
        about("if no wires as a text, of any length, begin with the characters before it and this character");
        for (String last : new String[] {"00a+1;", "00a+1*"}) {
            String text = "00a+1;".repeat(9) + last;
            due(60, () -> typed(text).firstError());
            due(NO_ARGUMENT, () -> typed(text).bend());
        }
        String wrongAtTheEnd = "00a+1;".repeat(9) + "00a+1:";
        due(59, () -> typed(wrongAtTheEnd).firstError());
        due(0, () -> typed("x".repeat(60)).firstError());
    }

    private static void lengthOfTheBuffer() {
        about("The buffer has at most 60 characters");
        NoteWatermarks x = new NoteWatermarks();
        for (int times = 0; times < 2; times++) {
            for (int length = 1; length <= 60; length++) {
                int due = length;
                due(due, () -> x.append(33 + due));
            }
            refused(x, NO_STATE, () -> x.append(33), () -> x.append(126));
            due(60, x::clearBuffer);
            due(1, () -> x.append(48));
            due(1, x::clearBuffer);
            due(0, x::clearBuffer);
        }
        about("the buffer has 60 characters, and the code is not 33 to 126: the one that is named first");
        NoteWatermarks full = typed("z".repeat(60));
        refused(full, NO_ARGUMENT, () -> full.append(32), () -> full.append(127));
        refused(full, NO_STATE, () -> full.append(97));
        due(60, full::clearBuffer);
        about("the buffer has 59 characters, 60 behind that");
        NoteWatermarks almost = typed("z".repeat(59));
        due(60, () -> almost.append(126));
        due(NO_STATE, () -> almost.append(126));
    }

    private static void codes() {
        about("the character code, 33 to 126");
        NoteWatermarks x = new NoteWatermarks();
        int length = 0;
        for (int c = 0; c <= 255; c++) {
            int code = c;
            if (code < 33 || code > 126) {
                due(NO_ARGUMENT, () -> x.append(code));
            } else {
                int next = length % 60 + 1;
                due(next, () -> x.append(code));
                if (next == 60) {
                    x.clearBuffer();
                }
                length++;
            }
        }
        for (int code : new int[] {LEAST, -1, 65536 + 48, MOST}) {
            due(NO_ARGUMENT, () -> x.append(code));
        }
        due(34, x::clearBuffer);
    }

    private static void complete() {
        about("Throws IllegalArgumentException if the buffer is not complete wires as a text");
        due(NO_ARGUMENT, () -> new NoteWatermarks().bend());
        for (String[] beginning : BEGINNINGS) {
            String text = beginning[0];
            if (isComplete(beginning[1])) {
                NoteWatermarks x = typed(text);
                due(wiresOf(text), x::bend);
                due(0, x::clearBuffer);
                due(1, () -> x.count(8));
            } else {
                NoteWatermarks x = typed(text);
                refused(x, NO_ARGUMENT, x::bend);
                due(0, () -> x.count(8));
                due(text.length(), x::clearBuffer);
                due(0L, () -> wires(x).stream().filter(wire -> wire != 0).count());
            }
        }
        for (String wrong : new String[] {"00a+1;00a+1;", ";", ";;", "00a+1;;00a+1", "00a+1*1", "00a+1*0",
            "00a+4", "00q+1", "06a+1", "30a+1", "00a1", "00a+1~", "~00a+1", "00a+1*2*2", "00a+1*22", "00a+12"}) {
            NoteWatermarks x = typed(wrong);
            refused(x, NO_ARGUMENT, x::bend);
            due(0L, () -> wires(x).stream().filter(wire -> wire != 0).count());
        }
    }

    private static void longestText() {
        about("if the buffer is not complete wires as a text: the longest one has 59 characters");
        String longest = "25p-3;".repeat(7) + "00a+1*9;11b+2*2";
        due(57, () -> typed(longest).clearBuffer());
        due(12, () -> typed(longest).bend());
        String longer = "25p-3;".repeat(9) + "00a+1";
        due(59, () -> typed(longer).clearBuffer());
        due(2, () -> typed(longer).bend());
        for (char code : new char[] {';', '*', '0', '~'}) {
            NoteWatermarks x = typed(longer + code);
            due(code == ';' || code == '*' ? 60 : 59, x::firstError);
            refused(x, NO_ARGUMENT, x::bend);
            due(60, x::clearBuffer);
        }
    }

    /** Only for the beginnings above, whose parts lie apart. */
    private static int wiresOf(String text) {
        int wires = 0;
        for (String part : text.split(";")) {
            int times = part.length() > 5 ? part.charAt(6) - '0' : 1;
            wires += part.charAt(4) == '0' ? 0 : Math.min(times, 'q' - part.charAt(2));
        }
        return wires;
    }

    private static void columnsSideBySide() {
        about("how many columns side by side from that one on get the same wire, 2 to 9 "
                + "(those beyond the column 15 are left out)");
        for (int column = 0; column < ROLL_COLUMNS; column++) {
            for (int times = 1; times <= 9; times++) {
                for (int row : new int[] {0, 4, 5}) {
                    int roll = (column + times) % ROLLS;
                    int first = column;
                    int end = column + times;
                    NoteWatermarks x = typed("" + roll + row + LETTERS.charAt(column) + "-2"
                            + (times == 1 ? "" : "*" + times));
                    due(Math.min(end, 16) - first, x::bend);
                    for (int c = 0; c < ROLL_COLUMNS; c++) {
                        int at = c;
                        due(at >= first && at < end ? 98 : 100, () -> x.wire(roll, row, at, 0));
                    }
                    due(0L, () -> wires(x).stream().filter(wire -> wire != 0).count());
                }
            }
        }
    }

    private static void eachPlace() {
        about("each a roll, 0 to 2, a row, 0 to 5, a column as a letter \"a\" to \"p\" (0 to 15), "
                + "\"+\" or \"-\", and 0 to 3");
        for (int r = 0; r < ROLLS; r++) {
            for (int y = 0; y < ROWS; y++) {
                for (int c = 0; c < ROLL_COLUMNS; c++) {
                    int roll = r;
                    int row = y;
                    int column = c;
                    int height = (r + y + c) % 4;
                    boolean isMinus = (r + y + c) % 3 == 0;
                    NoteWatermarks x = typed("" + r + y + LETTERS.charAt(c) + (isMinus ? "-" : "+") + height);
                    due(height == 0 ? 0 : 1, x::bend);
                    due(isMinus ? 100 - height : 100 + height, () -> x.wire(roll, row, column, 0));
                }
            }
        }
        for (int h = 0; h <= 3; h++) {
            int height = h;
            NoteWatermarks x = typed("00a+" + h + ";00b-" + h);
            due(h == 0 ? 0 : 2, x::bend);
            due(100 + height, () -> x.wire(0, 0, 0, 0));
            due(100 - height, () -> x.wire(0, 0, 1, 0));
        }
    }

    private static void onePartAfterTheOther() {
        about("Changes the wires in the buffer, one part after the other, and clears the buffer");
        NoteWatermarks x = typed("00a+1*9;00b-2*3;00c+0;00d+3;00a+0");
        due(7, x::bend);
        int[] due = {0, -2, 0, 3, 1, 1, 1, 1, 1, 0};
        for (int column = 0; column < due.length; column++) {
            int at = column;
            due(100 + due[at], () -> x.wire(0, 0, at, 0));
        }
        due(0, x::clearBuffer);
        NoteWatermarks kept = new NoteWatermarks();
        kept.wire(1, 1, 1, 2);
        kept.wire(1, 1, 2, 2);
        type(kept, "11b-3");
        due(2, kept::bend);
        due(97, () -> kept.wire(1, 1, 1, 0));
        due(102, () -> kept.wire(1, 1, 2, 0));
        due(0, kept::firstError);
        due(1, () -> kept.append('0'));
    }

    private static void allWires() {
        about("Returns how many wires of all rolls are not 0 then, those that do not touch the paper, too");
        NoteWatermarks x = typed("00a+0");
        due(0, x::bend);
        x.size(0, 4);
        x.size(1, 4);
        x.size(2, 4);
        int wires = 0;
        for (int roll = 0; roll < ROLLS; roll++) {
            for (int row = 0; row < ROWS; row++) {
                type(x, "" + roll + row + "a+1*9;" + roll + row + "j-1*7");
                wires += 16;
                due(wires, x::bend);
            }
        }
        dueThat(wires == 288);
    }

    private static void oneUndo() {
        about("Undoable, as one call");
        NoteWatermarks x = new NoteWatermarks();
        x.wire(0, 0, 0, -1);
        type(x, "00a+3;00b+3;25p-3*9");
        due(3, x::bend);
        due(2, () -> x.count(8));
        due(1, x::undo);
        due(0, x::clearBuffer);
        due(99, () -> x.wire(0, 0, 0, 0));
        due(0L, () -> wires(x).stream().filter(wire -> wire != 0).count());
    }

    private static void clearing() {
        about("Clears the buffer. Returns the length that it had");
        for (int l = 0; l <= 60; l++) {
            int length = l;
            NoteWatermarks x = typed("*".repeat(length));
            due(length, x::clearBuffer);
            due(0, x::clearBuffer);
            due(0, x::firstError);
            due(0, () -> x.count(8));
            due(new NoteWatermarks().digest(), x::digest);
        }
    }

    public static void main(String[] args) {
        whatMayComeNext();
        firstOfSeveral();
        noError();
        ofAnyLength();
        lengthOfTheBuffer();
        codes();
        complete();
        longestText();
        columnsSideBySide();
        eachPlace();
        onePartAfterTheOther();
        allWires();
        oneUndo();
        clearing();
        CHECK.end();
    }
}
