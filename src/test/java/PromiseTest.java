/** For each promise of the document: ordinary inputs, its edges, and wrong inputs. */
public final class PromiseTest extends Sentences {

    private static NoteWatermarks begin(String promise) {
        about(promise);
        return new NoteWatermarks();
    }

    private static int firstErrorOf(String text) {
        return typed(text).firstError();
    }

    private static void newObject() {
        NoteWatermarks x = begin("promise 1");
        for (int r = 0; r < 3; r++) {
            int roll = r;
            due(12, () -> x.roll(roll, 0));
            due(0, () -> x.roll(roll, 1));
            due(0, () -> x.roll(roll, 2));
            due(1000, () -> x.roll(roll, 3));
            due(1, () -> x.roll(roll, 4));
        }
        due(0, () -> x.setting(0));
        due(12, () -> x.setting(1));
        due(2, () -> x.setting(2));
        due(10, () -> x.cell(0, 0, 0, 0));
        due(0, () -> x.cell(0, 0, 0, 1));
        due(110, () -> x.cell(0, 0, 0, 2));
        due(100, () -> x.cell(0, 0, 0, 3));
        int[] counts = {0, 0, 0, 1, 99, 0, 10, 10, 0};
        for (int w = 0; w < counts.length; w++) {
            int what = w;
            due(counts[what], () -> x.count(what));
        }
        due(-1, () -> x.figureOf(3, 0));
        due(0, x::firstError);
        due(0, x::clearBuffer);
        due(NO_STATE, x::undo);
        due(0.0, x::goodness);
        due(-1, () -> NoteWatermarks.NONE);
    }

    private static void wire() {
        NoteWatermarks x = begin("promise 2");
        due(100, () -> x.wire(0, 0, 0, 3));
        due(103, () -> x.wire(0, 0, 0, -3));
        due(97, () -> x.wire(0, 0, 0, -3));
        due(3, () -> x.count(8));
        due(100, () -> x.wire(2, 5, 15, 1));
        due(101, () -> x.wire(2, 5, 15, 0));
        due(100, () -> x.wire(1, 5, 15, 2));
        due(7, () -> x.cell(0, 0, 0, 0));
        due(7, () -> x.cell(1, 0, 0, 0));
        due(10, () -> x.cell(0, 0, 1, 0));
        refused(x, NO_PLACE, () -> x.wire(-1, 0, 0, 0), () -> x.wire(3, 0, 0, 0),
                () -> x.wire(0, -1, 0, 0), () -> x.wire(0, 6, 0, 0),
                () -> x.wire(0, 0, -1, 0), () -> x.wire(0, 0, 16, 0),
                () -> x.wire(LEAST, MOST, 0, 9), () -> x.wire(0, 0, MOST, 9));
        refused(x, NO_ARGUMENT, () -> x.wire(0, 0, 0, 4), () -> x.wire(0, 0, 0, -4),
                () -> x.wire(0, 0, 0, MOST), () -> x.wire(0, 0, 0, LEAST));
    }

    private static void size() {
        NoteWatermarks x = begin("promise 3");
        x.wire(1, 2, 15, 2);
        x.turn(1, 11);
        due(0, () -> x.roll(1, 2));
        due(12, () -> x.size(1, 16));
        due(1, () -> x.roll(1, 2));
        due(1002, () -> x.roll(1, 3));
        due(11, () -> x.roll(1, 1));
        due(16, () -> x.size(1, 4));
        due(3, () -> x.roll(1, 1));
        due(4, () -> x.size(1, 16));
        due(3, () -> x.roll(1, 1));
        due(10, () -> x.cell(0, 2, 11, 0));
        due(12, () -> x.cell(1, 2, 0, 0));
        due(16, () -> x.size(1, 16));
        due(6, () -> x.count(8));
        refused(x, NO_PLACE, () -> x.size(-1, 4), () -> x.size(3, 4), () -> x.size(3, 99));
        refused(x, NO_ARGUMENT, () -> x.size(0, 3), () -> x.size(0, 17), () -> x.size(2, 0),
                () -> x.size(0, LEAST), () -> x.size(0, MOST));
    }

    private static void turn() {
        NoteWatermarks x = begin("promise 4");
        x.wire(0, 3, 5, 3);
        due(13, () -> x.cell(0, 3, 5, 0));
        due(5, () -> x.turn(0, 5));
        due(13, () -> x.cell(0, 3, 0, 0));
        due(4, () -> x.turn(0, -1));
        due(7, () -> x.turn(0, 99));
        due(4, () -> x.turn(0, -99));
        due(4, () -> x.turn(0, 0));
        due(9, () -> x.turn(1, -99));
        due(6, () -> x.count(8));
        refused(x, NO_PLACE, () -> x.turn(-1, 0), () -> x.turn(3, 0), () -> x.turn(3, 100));
        refused(x, NO_ARGUMENT, () -> x.turn(0, 100), () -> x.turn(0, -100),
                () -> x.turn(0, LEAST), () -> x.turn(0, MOST));
    }

    private static void clear() {
        NoteWatermarks x = begin("promise 5");
        x.wire(0, 0, 0, 1);
        x.wire(0, 5, 15, -1);
        x.wire(1, 0, 0, 1);
        due(2, () -> x.clear(0));
        due(0, () -> x.clear(0));
        due(1, () -> x.roll(1, 2));
        due(100, () -> x.wire(0, 5, 15, 0));
        due(6, () -> x.count(8));
        refused(x, NO_PLACE, () -> x.clear(-1), () -> x.clear(3), () -> x.clear(MOST));
    }

    private static void ink() {
        NoteWatermarks x = begin("promise 6");
        due(72, () -> x.ink(0, 0, 6, 12, 9));
        due(0, () -> x.ink(0, 0, 6, 12, 9));
        due(1, () -> x.ink(5, 11, 1, 1, 0));
        due(3, () -> x.ink(4, 10, 2, 2, 0));
        due(0, () -> x.cell(0, 4, 10, 1));
        due(9, () -> x.cell(999, 3, 10, 1));
        due(9, () -> x.cell(0, 4, 9, 1));
        due(68, () -> x.count(5));
        due(4, () -> x.count(8));
        refused(x, NO_PLACE, () -> x.ink(-1, 0, 1, 1, 0), () -> x.ink(6, 0, 1, 1, 0),
                () -> x.ink(0, -1, 1, 1, 0), () -> x.ink(0, 12, 1, 1, 0), () -> x.ink(6, 0, 0, 0, 10));
        refused(x, NO_ARGUMENT, () -> x.ink(0, 0, 0, 1, 0), () -> x.ink(0, 0, 7, 1, 0),
                () -> x.ink(0, 0, 1, 0, 0), () -> x.ink(0, 0, 1, 13, 0), () -> x.ink(5, 0, 2, 1, 0),
                () -> x.ink(0, 11, 1, 2, 0), () -> x.ink(0, 0, 1, 1, -1), () -> x.ink(0, 0, 1, 1, 10),
                () -> x.ink(1, 1, MOST, 1, 0), () -> x.ink(1, 1, 1, MOST, 0),
                () -> x.ink(1, 1, LEAST, LEAST, 0));
    }

    private static void figure() {
        NoteWatermarks x = begin("promise 7");
        due(8, () -> x.figure(0, 1, 1, 1, 1));
        due(3, () -> x.figure(1, 0, 0, 1, 1));
        due(5, () -> x.figure(2, 5, 4, 1, 1));
        due(0, () -> x.figure(3, 0, 0, 6, 12));
        due(12, () -> x.figure(3, 0, 1, 6, 10));
        due(16, () -> x.figure(0, 1, 1, 2, 4));
        due(8, () -> x.figureOf(0, 0));
        due(4, () -> x.count(0));
        due(6, () -> x.count(8));
        refused(x, NO_PLACE, () -> x.figure(-1, 0, 0, 1, 1), () -> x.figure(4, 0, 0, 1, 1),
                () -> x.figure(0, -1, 0, 1, 1), () -> x.figure(0, 6, 0, 1, 1),
                () -> x.figure(0, 0, -1, 1, 1), () -> x.figure(0, 0, 12, 0, 0));
        refused(x, NO_ARGUMENT, () -> x.figure(0, 0, 0, 0, 1), () -> x.figure(0, 0, 0, 7, 1),
                () -> x.figure(0, 0, 0, 1, 0), () -> x.figure(0, 0, 0, 1, 13),
                () -> x.figure(0, 5, 0, 2, 1), () -> x.figure(0, 0, 11, 1, 2),
                () -> x.figure(0, 1, 1, MOST, 1), () -> x.figure(0, 1, 1, 1, LEAST));
    }

    private static void drop() {
        NoteWatermarks x = begin("promise 8");
        due(0, () -> x.drop(0));
        x.figure(3, 0, 0, 6, 12);
        due(1, () -> x.drop(3));
        due(0, () -> x.drop(3));
        due(-1, () -> x.figureOf(3, 0));
        due(0, () -> x.count(0));
        due(4, () -> x.count(8));
        refused(x, NO_PLACE, () -> x.drop(-1), () -> x.drop(4), () -> x.drop(LEAST));
    }

    private static void set() {
        NoteWatermarks x = begin("promise 9");
        x.wire(0, 0, 3, 3);
        due(0, () -> x.set(0, 99));
        due(99, () -> x.set(0, 3));
        due(13, () -> x.cell(0, 0, 0, 0));
        due(12, () -> x.set(1, 30));
        due(30, () -> x.set(1, 12));
        due(2, () -> x.set(2, 9));
        due(9, () -> x.set(2, 1));
        due(3, () -> x.set(0, 0));
        due(6, () -> x.count(8));
        refused(x, NO_PLACE, () -> x.set(-1, 0), () -> x.set(3, 0), () -> x.set(3, -1));
        refused(x, NO_ARGUMENT, () -> x.set(0, -1), () -> x.set(0, 100), () -> x.set(1, 11),
                () -> x.set(1, 31), () -> x.set(2, 0), () -> x.set(2, 10), () -> x.set(0, MOST));
    }

    private static void append() {
        NoteWatermarks x = begin("promise 10");
        due(NO_ARGUMENT, () -> x.append(32));
        due(NO_ARGUMENT, () -> x.append(127));
        due(NO_ARGUMENT, () -> x.append(LEAST));
        due(1, () -> x.append(33));
        due(2, () -> x.append(126));
        due(0, () -> x.count(8));
        type(x, "x".repeat(57));
        due(60, () -> x.append(64));
        refused(x, NO_STATE, () -> x.append(64), () -> x.append(33));
        refused(x, NO_ARGUMENT, () -> x.append(32), () -> x.append(MOST));
    }

    private static void clearBuffer() {
        NoteWatermarks x = begin("promise 11");
        due(0, x::clearBuffer);
        type(x, "9".repeat(60));
        due(60, x::clearBuffer);
        due(0, x::clearBuffer);
        due(1, () -> x.append(48));
        due(0, () -> x.count(8));
    }

    private static void firstError() {
        begin("promise 12");
        due(0, () -> firstErrorOf(""));
        due(0, () -> firstErrorOf("3"));
        due(0, () -> firstErrorOf(";"));
        due(1, () -> firstErrorOf("06"));
        due(2, () -> firstErrorOf("00q"));
        due(2, () -> firstErrorOf("00A"));
        due(3, () -> firstErrorOf("00a1"));
        due(4, () -> firstErrorOf("25p-4"));
        due(5, () -> firstErrorOf("00a+1+"));
        due(6, () -> firstErrorOf("00a+1*1"));
        due(7, () -> firstErrorOf("00a+1*9*"));
        due(7, () -> firstErrorOf("00a+1*22"));
        due(6, () -> firstErrorOf("00a+1;;"));
        due(6, () -> firstErrorOf("00a+1;3zzz"));
        due(6, () -> firstErrorOf("00a+1;"));
        due(14, () -> firstErrorOf("00a+1*2;25p-3*"));
        String full = "00a+1;".repeat(10);
        due(60, () -> firstErrorOf(full));
    }

    private static void bend() {
        NoteWatermarks x = begin("promise 13");
        type(x, "00a+3*2;25p-1*9;12c-0");
        due(3, x::bend);
        due(0, x::clearBuffer);
        due(1, () -> x.count(8));
        due(103, () -> x.wire(0, 0, 0, 0));
        due(103, () -> x.wire(0, 0, 1, 0));
        due(100, () -> x.wire(0, 0, 2, 0));
        due(99, () -> x.wire(2, 5, 15, 0));
        x.wire(1, 1, 15, 1);
        type(x, "00e+2*9;00f-2;00g+0;00h+1");
        due(9, x::bend);
        due(98, () -> x.wire(0, 0, 5, 0));
        due(5, x::undo);
        due(4, x::undo);
        due(1, () -> typed("11p+3*9").bend());
        due(100, () -> x.wire(0, 0, 5, 0));
        refused(x, NO_ARGUMENT, x::bend);
        for (String text : new String[] {"0", "00a+", "00a+1;", "00a+1*", "00a+1*1", "00a+1x", ";00a+1",
            "00a+1;;00a+1", "00a+4", "30a+1", "00a+1;0"}) {
            type(x, text);
            refused(x, NO_ARGUMENT, x::bend);
            due(text.length(), x::clearBuffer);
        }
        type(x, "00a+1;".repeat(9) + "00b+2");
        due(3, x::bend);
    }

    private static void undo() {
        NoteWatermarks x = begin("promise 14");
        due(NO_STATE, x::undo);
        long plain = x.digest();
        x.wire(0, 1, 2, 3);
        due(0, x::undo);
        due(plain, x::digest);
        x.set(0, 0);
        x.drop(0);
        due(1, x::undo);
        due(0, x::undo);
        long[] before = new long[8];
        for (int i = 0; i < 8; i++) {
            before[i] = x.cell(0, 0, 0, 0);
            x.wire(0, 0, 0, i % 4);
        }
        due(6, () -> x.count(8));
        for (int i = 7; i >= 2; i--) {
            int left = i - 2;
            int back = i;
            due(left, x::undo);
            due(before[back], () -> x.cell(0, 0, 0, 0));
        }
        due(NO_STATE, x::undo);
        x.clear(0);
        x.clearBuffer();
        type(x, "00a+1");
        x.bend();
        type(x, "zz");
        due(1, x::undo);
        due(2, x::clearBuffer);
        due(0, x::undo);
        undoOfEach();
    }

    private static void undoOfEach() {
        NoteWatermarks x = new NoteWatermarks();
        x.figure(1, 1, 1, 2, 2);
        Check.Call[] calls = {() -> x.wire(0, 1, 1, 3), () -> x.size(0, 5), () -> x.turn(0, 1),
            () -> x.ink(1, 1, 2, 2, 4), () -> x.figure(1, 2, 2, 1, 1), () -> x.drop(1),
            () -> x.set(2, 1), () -> x.figure(0, 0, 0, 1, 1)};
        for (Check.Call call : calls) {
            long before = x.digest();
            call.answer();
            dueThat(x.digest() != before);
            due(1, x::undo);
            due(before, x::digest);
        }
    }

    private static void roll() {
        NoteWatermarks x = begin("promise 15");
        x.size(0, 7);
        x.size(1, 16);
        x.size(2, 4);
        int[] behind12 = {7, 4, 1};
        int[] behind14 = {1, 8, 2};
        for (int r = 0; r < 3; r++) {
            int roll = r;
            due(behind12[roll], () -> x.roll(roll, 4));
        }
        x.set(1, 14);
        x.set(0, 5);
        for (int r = 0; r < 3; r++) {
            int roll = r;
            due(behind14[roll], () -> x.roll(roll, 4));
        }
        x.wire(2, 0, 3, -3);
        x.wire(2, 0, 4, 3);
        x.wire(2, 5, 0, 1);
        due(4, () -> x.roll(2, 0));
        due(2, () -> x.roll(2, 2));
        due(998, () -> x.roll(2, 3));
        x.turn(2, 3);
        due(3, () -> x.roll(2, 1));
        refused(x, NO_PLACE, () -> x.roll(-1, 0), () -> x.roll(3, 0), () -> x.roll(3, 5));
        refused(x, NO_ARGUMENT, () -> x.roll(0, -1), () -> x.roll(0, 5), () -> x.roll(0, MOST));
    }

    private static void cell() {
        NoteWatermarks x = begin("promise 16");
        type(x, "00a+3;10a+3;20a+3;00a+3;01a+3;00b+3;10b+3;20b+3;05l-3*2");
        x.bend();
        type(x, "15l-3;25l-3;05l-3;00c-3;10c-3;20c-3");
        x.bend();
        x.wire(0, 5, 10, -2);
        due(19, () -> x.cell(0, 0, 0, 0));
        due(109, () -> x.cell(0, 0, 0, 3));
        due(1, () -> x.cell(0, 5, 11, 0));
        due(1, () -> x.cell(0, 0, 2, 0));
        x.ink(5, 11, 1, 1, 9);
        due(92, () -> x.cell(0, 5, 11, 2));
        due(9, () -> x.cell(0, 5, 11, 1));
        due(91, () -> x.cell(0, 5, 11, 3));
        due(98, () -> x.cell(0, 5, 10, 3));
        x.set(1, 13);
        x.set(0, 1);
        due(19, () -> x.cell(0, 0, 0, 0));
        due(1, () -> x.cell(1, 0, 0, 0));
        due(10, () -> x.cell(2, 0, 0, 0));
        due(19, () -> x.cell(11, 0, 0, 0));
        due(10, () -> x.cell(999, 4, 11, 0));
        refused(x, NO_PLACE, () -> x.cell(-1, 0, 0, 0), () -> x.cell(1000, 0, 0, 0),
                () -> x.cell(0, -1, 0, 0), () -> x.cell(0, 6, 0, 0), () -> x.cell(0, 0, -1, 0),
                () -> x.cell(0, 0, 12, 4), () -> x.cell(MOST, 0, 0, 0), () -> x.cell(LEAST, 0, 0, 0));
        refused(x, NO_ARGUMENT, () -> x.cell(0, 0, 0, -1), () -> x.cell(0, 0, 0, 4));
    }

    /** One wire of height 3 that touches the notes 0, 2, 4 .. in the cell 1, 1. */
    private static NoteWatermarks everySecondNote() {
        NoteWatermarks x = new NoteWatermarks();
        x.size(0, 8);
        x.wire(0, 1, 1, 3);
        x.figure(0, 1, 1, 1, 1);
        return x;
    }

    private static void figureOf() {
        begin("promise 17");
        NoteWatermarks x = everySecondNote();
        due(1, () -> x.figureOf(0, 0));
        due(8, () -> x.figureOf(0, 1));
        due(1, () -> x.figureOf(0, 2));
        due(0, () -> x.figureOf(0, 3));
        due(50, () -> x.figureOf(0, 4));
        x.turn(0, 4);
        due(1, () -> x.figureOf(0, 3));
        due(50, () -> x.figureOf(0, 4));
        x.set(2, 4);
        due(-1, () -> x.figureOf(0, 3));
        due(0, () -> x.figureOf(0, 4));
        x.set(2, 3);
        due(1, () -> x.figureOf(0, 3));
        x.ink(0, 0, 1, 1, 1);
        due(0, () -> x.figureOf(0, 2));
        due(0, () -> x.figureOf(0, 4));
        due(1, () -> x.figureOf(0, 3));
        x.ink(0, 0, 3, 3, 1);
        due(1, () -> x.figureOf(0, 2));
        x.ink(0, 3, 6, 9, 5);
        due(1, () -> x.figureOf(0, 2));
        for (int w = 0; w <= 4; w++) {
            int what = w;
            due(-1, () -> x.figureOf(1, what));
        }
        refused(x, NO_PLACE, () -> x.figureOf(-1, 0), () -> x.figureOf(4, 0), () -> x.figureOf(4, 5));
        refused(x, NO_ARGUMENT, () -> x.figureOf(0, -1), () -> x.figureOf(0, 5), () -> x.figureOf(1, 5));
    }

    /** Three wires that meet in the cell 0, 0 of one note alone, of 2288. */
    private static NoteWatermarks meetingOn(int note) {
        NoteWatermarks x = new NoteWatermarks();
        x.set(1, 17);
        x.set(2, 9);
        int[] circumferences = {11, 13, 16};
        for (int roll = 0; roll < 3; roll++) {
            x.size(roll, circumferences[roll]);
            x.wire(roll, 0, note * 17 % circumferences[roll], 3);
        }
        x.figure(0, 0, 0, 1, 1);
        return x;
    }

    private static void figureOfFarNotes() {
        begin("promise 17, far notes");
        due(99, () -> meetingOn(99).figureOf(0, 3));
        due(1, () -> meetingOn(99).figureOf(0, 4));
        due(1009, () -> meetingOn(100).contrast(0, 100));
        due(-1, () -> meetingOn(100).figureOf(0, 3));
        due(0, () -> meetingOn(100).figureOf(0, 4));
        due(0.0, () -> meetingOn(10).goodness());
        due(0.1, () -> meetingOn(9).goodness());
    }

    /** A cell of other ink in each corner and side of the frame uncovers, one farther off does not. */
    private static void figureOfFrames() {
        begin("promise 17, frames");
        for (int row = 0; row < 6; row++) {
            for (int column = 0; column < 12; column++) {
                NoteWatermarks x = new NoteWatermarks();
                x.figure(0, 2, 3, 1, 2);
                x.ink(row, column, 1, 1, 1);
                boolean isNear = row >= 1 && row <= 3 && column >= 2 && column <= 5;
                due(isNear ? 0 : 1, () -> x.figureOf(0, 2));
                due(isNear ? 0 : 1, () -> x.count(1));
            }
        }
    }

    private static void contrast() {
        begin("promise 18");
        NoteWatermarks x = everySecondNote();
        due(1003, () -> x.contrast(0, 0));
        due(1000, () -> x.contrast(0, 1));
        due(1003, () -> x.contrast(0, 998));
        due(1000, () -> x.contrast(0, 999));
        x.ink(0, 0, 1, 1, 1);
        due(1003, () -> x.contrast(0, 0));
        due(1000, () -> x.contrast(0, 1));
        x.ink(0, 0, 1, 1, 0);
        x.ink(1, 1, 1, 1, 1);
        due(1002, () -> x.contrast(0, 0));
        due(999, () -> x.contrast(0, 1));
        x.figure(1, 0, 0, 1, 1);
        due(999, () -> x.contrast(1, 0));
        x.figure(1, 0, 0, 6, 12);
        due(1000, () -> x.contrast(1, 0));
        x.set(2, 1);
        due(-1, () -> x.figureOf(1, 3));
        due(-1, () -> x.contrast(2, 0));
        NoteWatermarks thin = new NoteWatermarks();
        thin.wire(0, 2, 2, -2);
        thin.wire(0, 2, 3, -1);
        thin.figure(0, 2, 2, 1, 1);
        thin.figure(1, 2, 2, 2, 3);
        due(998, () -> thin.contrast(0, 0));
        due(0, () -> thin.figureOf(0, 3));
        due(999, () -> thin.contrast(1, 0));
        thin.wire(0, 2, 3, 1);
        due(997, () -> thin.contrast(0, 0));
        refused(x, NO_PLACE, () -> x.contrast(-1, 0), () -> x.contrast(4, 0), () -> x.contrast(0, -1),
                () -> x.contrast(0, 1000), () -> x.contrast(2, 1000), () -> x.contrast(LEAST, MOST));
    }

    private static void count() {
        begin("promise 19");
        NoteWatermarks x = everySecondNote();
        x.figure(1, 4, 4, 1, 1);
        x.ink(5, 5, 1, 1, 7);
        x.wire(0, 4, 4, -2);
        due(2, () -> x.count(0));
        due(1, () -> x.count(1));
        due(1, () -> x.count(2));
        due(2, () -> x.count(3));
        due(49, () -> x.count(4));
        due(1, () -> x.count(5));
        due(8, () -> x.count(6));
        due(13, () -> x.count(7));
        due(6, () -> x.count(8));
        x.size(1, 9);
        due(6, () -> x.count(3));
        due(49, () -> x.count(4));
        x.size(2, 16);
        due(12, () -> x.count(3));
        x.size(0, 13);
        x.size(1, 15);
        x.set(1, 17);
        due(3120, () -> x.count(3));
        x.turn(0, 4);
        due(0, () -> x.count(2));
        refused(x, NO_ARGUMENT, () -> x.count(-1), () -> x.count(9), () -> x.count(MOST));
    }

    private static void countOfOtherNotes() {
        NoteWatermarks x = begin("promise 19, other notes");
        x.size(0, 16);
        x.wire(0, 0, 0, 3);
        due(24, () -> x.count(4));
        due(13, () -> x.count(7));
        x.turn(0, 4);
        due(10, () -> x.count(7));
        x.wire(0, 0, 0, -3);
        due(10, () -> x.count(6));
        x.turn(0, -4);
        due(7, () -> x.count(6));
        due(10, () -> x.count(7));
    }

    private static void countOfFullRows() {
        NoteWatermarks x = begin("promise 19, full rows");
        type(x, "00a+3*9;10a+3*9;20a+3*9;00j+3*3;10j+3*3;20j+3*3");
        x.bend();
        due(99, () -> x.count(4));
        x.size(2, 11);
        due(99, () -> x.count(4));
        x.wire(2, 0, 0, 2);
        due(10, () -> x.count(6));
        due(19, () -> x.count(7));
        due(9, () -> x.count(4));
    }

    private static void setting() {
        NoteWatermarks x = begin("promise 20");
        x.set(0, 7);
        x.set(1, 13);
        x.set(2, 9);
        due(7, () -> x.setting(0));
        due(13, () -> x.setting(1));
        due(9, () -> x.setting(2));
        due(3, () -> x.count(8));
        refused(x, NO_PLACE, () -> x.setting(-1), () -> x.setting(3), () -> x.setting(LEAST));
    }

    private static void bestPhase() {
        NoteWatermarks x = begin("promise 21");
        due(-1, () -> x.bestPhase(0, 0));
        x.figure(0, 2, 2, 1, 1);
        due(0, () -> x.bestPhase(0, 0));
        x.wire(0, 2, 9, -2);
        x.wire(0, 2, 11, 2);
        due(7, () -> x.bestPhase(0, 0));
        x.wire(0, 2, 11, -3);
        due(9, () -> x.bestPhase(0, 0));
        x.wire(0, 2, 15, 3);
        due(9, () -> x.bestPhase(0, 0));
        x.turn(0, 5);
        due(9, () -> x.bestPhase(0, 0));
        due(5, () -> x.roll(0, 1));
        due(0, () -> x.bestPhase(1, 0));
        x.set(0, 3);
        due(6, () -> x.bestPhase(0, 0));
        x.size(0, 16);
        due(6, () -> x.bestPhase(0, 0));
        x.set(1, 13);
        due(6, () -> x.bestPhase(0, 0));
        refused(x, NO_PLACE, () -> x.bestPhase(-1, 0), () -> x.bestPhase(3, 0),
                () -> x.bestPhase(0, -1), () -> x.bestPhase(0, 4));
        due(6, () -> x.count(8));
    }

    private static void bestPitch() {
        NoteWatermarks x = begin("promise 22");
        due(12, x::bestPitch);
        x.size(0, 7);
        due(28, x::bestPitch);
        x.size(0, 8);
        due(24, x::bestPitch);
        x.size(1, 8);
        x.size(2, 8);
        due(16, x::bestPitch);
        x.set(1, 30);
        due(16, x::bestPitch);
        due(30, () -> x.setting(1));
        x.size(0, 16);
        x.size(1, 15);
        x.size(2, 13);
        due(30, x::bestPitch);
        x.size(0, 13);
        x.size(1, 13);
        due(13, x::bestPitch);
        x.size(0, 11);
        x.size(1, 11);
        x.size(2, 11);
        due(22, x::bestPitch);
        due(6, () -> x.count(8));
    }

    private static void standsOut() {
        NoteWatermarks x = begin("promise 23");
        due(0, () -> x.standsOut(1, 1, 0));
        due(0, () -> x.standsOut(1, 1, 1));
        due(0, () -> x.standsOut(1, 1, 2));
        x.wire(0, 3, 5, -3);
        due(3, () -> x.standsOut(1, 1, 0));
        due(5, () -> x.standsOut(1, 1, 1));
        due(3, () -> x.standsOut(1, 1, 2));
        x.wire(0, 1, 9, -3);
        due(1, () -> x.standsOut(1, 1, 0));
        due(9, () -> x.standsOut(1, 1, 1));
        x.wire(0, 1, 7, -3);
        due(7, () -> x.standsOut(1, 1, 1));
        x.ink(5, 11, 1, 1, 9);
        due(5, () -> x.standsOut(1, 1, 0));
        due(11, () -> x.standsOut(1, 1, 1));
        due(9, () -> x.standsOut(1, 1, 2));
        due(4, () -> x.count(8));
        x.size(0, 16);
        x.turn(0, 4);
        x.ink(0, 0, 6, 12, 0);
        due(1, () -> x.standsOut(1, 1, 0));
        due(3, () -> x.standsOut(1, 1, 1));
        due(0, () -> x.standsOut(6, 12, 2));
        due(0, () -> x.standsOut(6, 12, 0));
        refused(x, NO_ARGUMENT, () -> x.standsOut(0, 1, 0), () -> x.standsOut(7, 1, 0),
                () -> x.standsOut(1, 0, 0), () -> x.standsOut(1, 13, 0), () -> x.standsOut(1, 1, -1),
                () -> x.standsOut(1, 1, 3), () -> x.standsOut(MOST, LEAST, 0));
    }

    private static void goodness() {
        begin("promise 24");
        NoteWatermarks x = everySecondNote();
        due(0.5, x::goodness);
        x.figure(1, 4, 4, 1, 1);
        due(0.25, x::goodness);
        x.figure(3, 1, 1, 1, 1);
        due(10 / 30.0, x::goodness);
        x.ink(1, 1, 1, 1, 1);
        due(0.0, x::goodness);
        x.drop(0);
        x.drop(1);
        x.drop(3);
        due(0.0, x::goodness);
        NoteWatermarks always = new NoteWatermarks();
        always.wire(0, 0, 0, 3);
        always.figure(2, 0, 0, 1, 1);
        due(1.0, always::goodness);
    }

    /** The list of the document, with the library's bits of a double. */
    private static long digestOf(NoteWatermarks x, String buffer) {
        long hash = 2837;
        for (int what = 0; what <= 8; what++) {
            hash = 31 * hash + x.count(what);
        }
        for (int setting = 0; setting <= 2; setting++) {
            hash = 31 * hash + x.setting(setting);
        }
        for (int roll = 0; roll <= 2; roll++) {
            for (int what = 0; what <= 4; what++) {
                hash = 31 * hash + x.roll(roll, what);
            }
            hash = 31 * hash + x.bestPhase(roll, 0);
        }
        for (int row = 0; row < 6; row++) {
            for (int column = 0; column < 12; column++) {
                hash = 31 * hash + x.cell(1, row, column, 0);
                hash = 31 * hash + x.cell(1, row, column, 2);
            }
        }
        for (int figure = 0; figure <= 3; figure++) {
            for (int what = 0; what <= 4; what++) {
                hash = 31 * hash + x.figureOf(figure, what);
            }
            for (int note = 0; note <= 2; note++) {
                hash = 31 * hash + x.contrast(figure, note);
            }
        }
        hash = 31 * hash + x.bestPitch();
        for (int what = 0; what <= 2; what++) {
            hash = 31 * hash + x.standsOut(2, 3, what);
        }
        hash = 31 * hash + Double.doubleToLongBits(x.goodness());
        hash = 31 * hash + buffer.length();
        for (int i = 0; i < buffer.length(); i++) {
            hash = 31 * hash + buffer.charAt(i);
        }
        return hash;
    }

    private static NoteWatermarks twoFigures(String buffer) {
        NoteWatermarks x = everySecondNote();
        x.figure(3, 1, 1, 2, 2);
        x.figure(2, 3, 4, 3, 2);
        type(x, buffer);
        return x;
    }

    private static void digest() {
        NoteWatermarks x = begin("promise 25");
        due(digestOf(x, ""), x::digest);
        type(x, "~!00");
        due(digestOf(x, "~!00"), x::digest);
        due(digestOf(twoFigures(""), ""), () -> twoFigures("").digest());
        due(digestOf(twoFigures("q"), "q"), () -> twoFigures("q").digest());
        NoteWatermarks inked = twoFigures("");
        inked.set(2, 1);
        inked.ink(0, 0, 3, 3, 4);
        due(digestOf(inked, ""), inked::digest);
        due(digestOf(inked, ""), inked::digest);
    }

    /**
     * Figures that are good on so many of the notes 0 to 9: the first one in
     * the row 1, the second one in the row 4, all others as the first one.
     */
    private static NoteWatermarks goodOn(int first, int second, int figures) {
        NoteWatermarks x = new NoteWatermarks();
        x.size(0, 11);
        for (int note = 0; note < 10; note++) {
            x.wire(0, 1, (note + 2) % 11, note < first ? 3 : 0);
            x.wire(0, 4, (note + 2) % 11, note < second ? 3 : 0);
        }
        for (int figure = 0; figure < figures; figure++) {
            x.figure(figure, figure == 1 ? 4 : 1, 2, 1, 1);
        }
        return x;
    }

    private static void eachShare() {
        about("promise 24 and the bits of promise 25, each share that can be");
        for (int number = 1; number <= 4; number++) {
            int figures = number;
            for (int g = 0; g <= 10 * number; g++) {
                int good = g;
                int first = number == 1 ? g : Math.min(10, g / (number - 1));
                int second = number == 1 ? 0 : g - first * (number - 1);
                NoteWatermarks x = goodOn(first, second, number);
                due(good / (10.0 * figures), x::goodness);
                due(digestOf(x, ""), x::digest);
            }
        }
    }

    public static void main(String[] args) {
        newObject();
        wire();
        size();
        turn();
        clear();
        ink();
        figure();
        drop();
        set();
        append();
        clearBuffer();
        firstError();
        bend();
        undo();
        roll();
        cell();
        figureOf();
        figureOfFarNotes();
        figureOfFrames();
        contrast();
        count();
        countOfOtherNotes();
        countOfFullRows();
        setting();
        bestPhase();
        bestPitch();
        standsOut();
        goodness();
        digest();
        eachShare();
        CHECK.end();
    }
}
