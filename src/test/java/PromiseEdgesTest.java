import java.util.function.IntUnaryOperator;

/** The sentences of the promises 1 to 9 and 15 to 25 that name a boundary; the text and undo have tests of their own. */
public final class PromiseEdgesTest extends Sentences {

    // ---- promise 1

    private static void newObject() {
        about("Creates plain rolls and notes without ink, with an empty buffer");
        NoteWatermarks x = new NoteWatermarks();
        dueThat(wires(new NoteWatermarks()).stream().allMatch(wire -> wire == 0));
        for (int cell = 0; cell < ROWS * COLUMNS; cell++) {
            int row = cell / COLUMNS;
            int column = cell % COLUMNS;
            for (int note : new int[] {0, 999}) {
                due(10, () -> x.cell(note, row, column, 0));
                due(0, () -> x.cell(note, row, column, 1));
            }
        }
        due(0, () -> x.count(5));
        due(0, () -> x.count(0));
        due(0, () -> x.count(8));
        due(0, x::clearBuffer);
        due(NO_STATE, x::undo);
        NoteWatermarks other = new NoteWatermarks();
        busy(new NoteWatermarks());
        due(x.digest(), other::digest);
    }

    private static void objectsApart() {
        about("(what one object is told, another one does not know)");
        NoteWatermarks one = new NoteWatermarks();
        NoteWatermarks other = new NoteWatermarks();
        long plain = other.digest();
        busy(one);
        due(plain, other::digest);
        due(NO_STATE, other::undo);
        other.set(0, 7);
        other.wire(0, 0, 0, 3);
        type(other, "~~~");
        due(0, other::firstError);
        due(6, () -> one.count(8));
        one.undo();
        due(5, () -> one.setting(0));
        due(6, one::firstError);
        due(8, one::clearBuffer);
        due(1, other::undo);
        due(7, () -> other.setting(0));
        due(10, () -> other.cell(0, 0, 0, 0));
        one.turn(0, 1);
        due(0, other::undo);
        due(3, other::clearBuffer);
        due(plain, other::digest);
    }

    // ---- promises 2 to 5

    private static void previousWire() {
        about("Changes a wire. Returns the previous one, with 100 more");
        for (int h = -3; h <= 3; h++) {
            for (int n = -3; n <= 3; n++) {
                int height = h;
                int next = n;
                NoteWatermarks x = new NoteWatermarks();
                due(100, () -> x.wire(2, 5, 15, height));
                due(100 + height, () -> x.wire(2, 5, 15, next));
                due(100 + next, () -> x.wire(2, 5, 15, 0));
            }
        }
    }

    private static void phaseOfAnotherSize() {
        about("Changes the circumference of a roll; its phase becomes that modulo the new circumference");
        for (int before = 4; before <= 16; before++) {
            for (int phase = 0; phase < before; phase++) {
                NoteWatermarks x = new NoteWatermarks();
                x.size(1, 16);
                for (int circumference = 4; circumference <= 16; circumference++) {
                    x.size(1, before);
                    x.turn(1, phase - x.roll(1, 1));
                    int was = before;
                    int to = circumference;
                    int due = phase % circumference;
                    due(was, () -> x.size(1, to));
                    due(to, () -> x.roll(1, 0));
                    due(due, () -> x.roll(1, 1));
                }
                due(12, () -> x.roll(0, 0));
                due(12, () -> x.roll(2, 0));
            }
        }
        NoteWatermarks kept = new NoteWatermarks();
        kept.size(0, 16);
        kept.wire(0, 0, 15, 3);
        kept.size(0, 4);
        due(0, () -> kept.roll(0, 2));
        kept.size(0, 16);
        due(1, () -> kept.roll(0, 2));
        due(16, () -> kept.size(0, 16));
    }

    private static void turnedRound() {
        about("its phase becomes greater by some columns, modulo its circumference. Returns its phase then");
        for (int circumference = 4; circumference <= 16; circumference++) {
            for (int phase : new int[] {0, circumference - 1}) {
                NoteWatermarks x = new NoteWatermarks();
                x.size(2, circumference);
                int all = circumference;
                int now = x.turn(2, phase);
                due(phase, () -> x.roll(2, 1));
                for (int b = -99; b <= 99; b++) {
                    int by = b;
                    int due = Math.floorMod(now + by, all);
                    due(due, () -> x.turn(2, by));
                    due(due, () -> x.roll(2, 1));
                    now = due;
                }
                due(NO_ARGUMENT, () -> x.turn(2, 100));
                due(NO_ARGUMENT, () -> x.turn(2, -100));
                due(now, () -> x.roll(2, 1));
                due(0, () -> x.roll(0, 1));
            }
        }
    }

    private static void clearedWires() {
        about("Makes all wires of a roll 0. Returns how many were not 0");
        for (int r = 0; r < ROLLS; r++) {
            int roll = r;
            NoteWatermarks x = new NoteWatermarks();
            due(0, () -> x.clear(roll));
            x.size(roll, 4);
            for (int place = 0; place < ROWS * ROLL_COLUMNS; place++) {
                x.wire(roll, place / ROLL_COLUMNS, place % ROLL_COLUMNS, place % 2 == 0 ? 1 : -3);
            }
            x.wire((roll + 1) % 3, 0, 0, 1);
            x.wire((roll + 2) % 3, 5, 15, 1);
            due(96, () -> x.clear(roll));
            due(0, () -> x.clear(roll));
            due(0, () -> x.roll(roll, 2));
            due(4, () -> x.roll(roll, 0));
            due(101, () -> x.wire((roll + 1) % 3, 0, 0, 0));
            due(101, () -> x.wire((roll + 2) % 3, 5, 15, 0));
            dueThat(wires(x).stream().allMatch(wire -> wire == 0));
        }
        for (int place = 0; place < ROWS * ROLL_COLUMNS; place++) {
            NoteWatermarks x = new NoteWatermarks();
            x.wire(1, place / ROLL_COLUMNS, place % ROLL_COLUMNS, 1);
            due(0, () -> x.clear(0));
            due(0, () -> x.clear(2));
            due(1, () -> x.clear(1));
            due(0, () -> x.clear(1));
        }
    }

    // ---- promises 6 to 9

    private static void inkedRectangles() {
        about("rows: how many rows, 1 to those that there are from there on; columns: .. from there on. "
                + "Returns how many cells have another ink then");
        for (int r = 0; r < ROWS; r++) {
            for (int c = 0; c < COLUMNS; c++) {
                int row = r;
                int column = c;
                int rows = ROWS - r;
                int columns = COLUMNS - c;
                NoteWatermarks x = new NoteWatermarks();
                due(NO_ARGUMENT, () -> x.ink(row, column, rows + 1, 1, 1));
                due(NO_ARGUMENT, () -> x.ink(row, column, 1, columns + 1, 1));
                due(NO_ARGUMENT, () -> x.ink(row, column, 0, 1, 1));
                due(NO_ARGUMENT, () -> x.ink(row, column, 1, 0, 1));
                due(0, () -> x.count(5));
                due(1, () -> x.ink(row, column, 1, 1, 9));
                due(0, () -> x.ink(row, column, 1, 1, 9));
                due(rows * columns - 1, () -> x.ink(row, column, rows, columns, 9));
                due(rows * columns, () -> x.count(5));
                due(0, () -> x.ink(row, column, rows, columns, 9));
                for (int cell = 0; cell < ROWS * COLUMNS; cell++) {
                    int y = cell / COLUMNS;
                    int at = cell % COLUMNS;
                    due(y >= row && at >= column ? 9 : 0, () -> x.cell(0, y, at, 1));
                }
                due(ROWS * COLUMNS - rows * columns, () -> x.ink(0, 0, 6, 12, 9));
                due(72, () -> x.ink(0, 0, 6, 12, 8));
                due(rows * columns, () -> x.ink(row, column, rows, columns, 0));
                due(72 - rows * columns, () -> x.count(5));
            }
        }
    }

    private static void inkOfRectangleAlone() {
        about("Inks a rectangle of cells");
        for (int rows = 1; rows <= 4; rows++) {
            for (int columns = 1; columns <= 9; columns++) {
                NoteWatermarks x = new NoteWatermarks();
                int endRow = 1 + rows;
                int endColumn = 2 + columns;
                int high = rows;
                int wide = columns;
                due(high * wide, () -> x.ink(1, 2, high, wide, 4));
                for (int cell = 0; cell < ROWS * COLUMNS; cell++) {
                    int y = cell / COLUMNS;
                    int at = cell % COLUMNS;
                    boolean isInked = y >= 1 && y < endRow && at >= 2 && at < endColumn;
                    due(isInked ? 4 : 0, () -> x.cell(3, y, at, 1));
                }
            }
        }
    }

    private static void figuresFromThereOn() {
        about("Makes a figure .. rows: how many rows, 1 to those that there are from there on; columns: ..");
        for (int r = 0; r < ROWS; r++) {
            for (int c = 0; c < COLUMNS; c++) {
                int row = r;
                int column = c;
                int rows = ROWS - r;
                int columns = COLUMNS - c;
                NoteWatermarks x = new NoteWatermarks();
                refused(x, NO_ARGUMENT, () -> x.figure(3, row, column, rows + 1, 1),
                        () -> x.figure(3, row, column, 1, columns + 1), () -> x.figure(3, row, column, 0, 1),
                        () -> x.figure(3, row, column, 1, 0));
                due(-1, () -> x.figureOf(3, 0));
                int frame = (rows + (row > 0 ? 1 : 0)) * (columns + (column > 0 ? 1 : 0)) - rows * columns;
                due(frame, () -> x.figure(3, row, column, rows, columns));
                due(rows * columns, () -> x.figureOf(3, 0));
                due(frame, () -> x.figureOf(3, 1));
            }
        }
    }

    private static void inPlaceOfTheOneThatWas() {
        about("Makes a figure, in place of the one that was");
        for (int f = 0; f < FIGURES; f++) {
            int figure = f;
            NoteWatermarks x = new NoteWatermarks();
            for (int other = 0; other < FIGURES; other++) {
                x.figure(other, 0, 0, 2, 2);
            }
            due(8, () -> x.figure(figure, 4, 4, 1, 1));
            due(4, () -> x.count(0));
            for (int o = 0; o < FIGURES; o++) {
                int other = o;
                due(other == figure ? 1 : 4, () -> x.figureOf(other, 0));
            }
        }
    }

    private static void dropped() {
        about("Takes a figure away. Returns 1 if it was there, otherwise 0");
        for (int f = 0; f < FIGURES; f++) {
            int figure = f;
            NoteWatermarks x = new NoteWatermarks();
            due(0, () -> x.drop(figure));
            for (int other = 0; other < FIGURES; other++) {
                x.figure(other, 5, 11, 1, 1);
            }
            due(1, () -> x.drop(figure));
            due(0, () -> x.drop(figure));
            due(3, () -> x.count(0));
            for (int o = 0; o < FIGURES; o++) {
                int other = o;
                due(other == figure ? -1 : 1, () -> x.figureOf(other, 0));
            }
            due(3, () -> x.figure(figure, 0, 0, 1, 1));
            due(1, () -> x.drop(figure));
        }
    }

    private static void previousSetting() {
        about("Changes a setting. Returns the previous value");
        NoteWatermarks x = new NoteWatermarks();
        int[][] ends = {{0, 99}, {12, 30}, {1, 9}};
        int[] plain = {0, 12, 2};
        for (int s = 0; s < 3; s++) {
            int setting = s;
            due(plain[setting], () -> x.set(setting, ends[setting][1]));
            due(ends[setting][1], () -> x.set(setting, ends[setting][0]));
            due(ends[setting][0], () -> x.set(setting, ends[setting][0]));
            due(ends[setting][0], () -> x.setting(setting));
        }
    }

    // ---- promises 15 and 16

    private static void wiresOfARoll() {
        about("2: wires that are not 0 and touch the paper; 3: the sum of the wires that touch the paper, with 1000 more");
        for (int sign = -1; sign <= 1; sign += 2) {
            NoteWatermarks x = new NoteWatermarks();
            for (int place = 0; place < ROWS * ROLL_COLUMNS; place++) {
                x.wire(1, place / ROLL_COLUMNS, place % ROLL_COLUMNS, 3 * sign);
            }
            for (int circumference = 4; circumference <= 16; circumference++) {
                x.size(1, circumference);
                x.turn(1, 3);
                int touching = ROWS * circumference;
                int sum = 1000 + 3 * sign * touching;
                due(touching, () -> x.roll(1, 2));
                due(sum, () -> x.roll(1, 3));
            }
            due(0, () -> x.roll(0, 2));
            due(1000, () -> x.roll(2, 3));
        }
        NoteWatermarks even = new NoteWatermarks();
        even.wire(0, 0, 0, 3);
        even.wire(0, 5, 11, -3);
        due(2, () -> even.roll(0, 2));
        due(1000, () -> even.roll(0, 3));
    }

    private static int notesAround(int circumference, int pitch) {
        int notes = 1;
        while (notes * pitch % circumference != 0) {
            notes++;
        }
        return notes;
    }

    private static void notesAroundARoll() {
        about("4: behind how many notes it has the same column at the first column as at that of the note 0");
        for (int circumference = 4; circumference <= 16; circumference++) {
            NoteWatermarks x = new NoteWatermarks();
            x.size(2, circumference);
            for (int pitch = 12; pitch <= 30; pitch++) {
                x.set(1, pitch);
                int due = notesAround(circumference, pitch);
                due(due, () -> x.roll(2, 4));
                x.turn(2, 1);
                x.set(0, pitch);
                due(due, () -> x.roll(2, 4));
            }
        }
    }

    private static void what() {
        about("what is 0 to 4 (roll), 0 to 3 (cell), 0 to 4 (figureOf), 0 to 8 (count), 0 to 2 (standsOut)");
        NoteWatermarks x = behind(Sentences::busy);
        for (int w : new int[] {LEAST, -1, 9, 10, MOST}) {
            int wrong = w;
            due(NO_ARGUMENT, () -> x.roll(0, wrong));
            due(NO_ARGUMENT, () -> x.cell(0, 0, 0, wrong));
            due(NO_ARGUMENT, () -> x.figureOf(0, wrong));
            due(NO_ARGUMENT, () -> x.figureOf(1, wrong));
            due(NO_ARGUMENT, () -> x.count(wrong));
            due(NO_ARGUMENT, () -> x.standsOut(1, 1, wrong));
        }
        due(NO_ARGUMENT, () -> x.roll(2, 5));
        due(NO_ARGUMENT, () -> x.cell(0, 0, 0, 4));
        due(NO_ARGUMENT, () -> x.figureOf(3, 5));
        due(NO_ARGUMENT, () -> x.figureOf(1, 5));
        due(NO_ARGUMENT, () -> x.standsOut(1, 1, 3));
        due(6, () -> x.count(8));
    }

    private static void sumOfWires() {
        about("0: its tone; 1: its ink; 2: its light, with 100 more; 3: the sum of the wires that touch it, with 100 more");
        NoteWatermarks x = new NoteWatermarks();
        for (int roll = 0; roll < ROLLS; roll++) {
            x.wire(roll, 5, 11, 3);
            x.wire(roll, 0, 0, -3);
        }
        x.ink(0, 0, 1, 1, 9);
        x.ink(5, 11, 1, 1, 1);
        int[] most = {19, 1, 118, 109};
        int[] least = {1, 9, 92, 91};
        for (int w = 0; w <= 3; w++) {
            int what = w;
            due(most[what], () -> x.cell(0, 5, 11, what));
            due(least[what], () -> x.cell(0, 0, 0, what));
            due(most[what], () -> x.cell(999, 5, 11, what));
            due(least[what], () -> x.cell(999, 0, 0, what));
        }
    }

    // ---- promises 17 to 19

    /** Three wires of the greatest height that meet in the cell 2, 2 of one note alone, of 2288. */
    private static NoteWatermarks meetingOn(int note) {
        NoteWatermarks x = new NoteWatermarks();
        x.set(1, 17);
        x.set(2, 9);
        int[] circumferences = {11, 13, 16};
        for (int roll = 0; roll < ROLLS; roll++) {
            x.size(roll, circumferences[roll]);
            x.wire(roll, 2, (note * 17 + 2) % circumferences[roll], 3);
        }
        x.figure(1, 2, 2, 1, 1);
        return x;
    }

    private static void firstNote() {
        about("3: the first note, of 0 to 99, on which it is seen, NONE if there is none");
        for (int note : new int[] {0, 1, 50, 98, 99}) {
            due(note, () -> meetingOn(note).figureOf(1, 3));
        }
        for (int note : new int[] {100, 101, 999}) {
            due(1009, () -> meetingOn(note).contrast(1, note));
            due(-1, () -> meetingOn(note).figureOf(1, 3));
        }
        NoteWatermarks inked = meetingOn(7);
        inked.ink(0, 0, 1, 1, 1);
        inked.ink(1, 1, 1, 1, 1);
        due(0, () -> inked.figureOf(1, 2));
        due(7, () -> inked.figureOf(1, 3));
        due(0, () -> inked.figureOf(1, 4));
    }

    private static void goodNotes() {
        about("4: notes, of 0 to 99, on which it is good");
        for (int note : new int[] {0, 1, 98, 99}) {
            due(1, () -> meetingOn(note).figureOf(1, 4));
        }
        due(0, () -> meetingOn(100).figureOf(1, 4));
        NoteWatermarks always = new NoteWatermarks();
        always.wire(0, 2, 2, -3);
        always.figure(1, 2, 2, 1, 1);
        due(100, () -> always.figureOf(1, 4));
        always.ink(2, 2, 1, 1, 1);
        due(0, () -> always.figureOf(1, 4));
    }

    private static void noFigure() {
        about("NONE if it is not there");
        NoteWatermarks x = new NoteWatermarks();
        for (int f = 0; f < FIGURES; f++) {
            int figure = f;
            for (int times = 0; times < 2; times++) {
                for (int w = 0; w <= 4; w++) {
                    int what = w;
                    due(-1, () -> x.figureOf(figure, what));
                }
                due(-1, () -> x.contrast(figure, 0));
                due(-1, () -> x.contrast(figure, 999));
                for (int r = 0; r < ROLLS; r++) {
                    int roll = r;
                    due(-1, () -> x.bestPhase(roll, figure));
                }
                x.figure(figure, 0, 0, 1, 1);
                due(1, () -> x.figureOf(figure, 0));
                due(1000, () -> x.contrast(figure, 999));
                x.drop(figure);
            }
        }
    }

    private static void counts() {
        about("0: figures; 1: hidden ones; 2: those that are good on the note 0");
        NoteWatermarks x = new NoteWatermarks();
        x.wire(0, 2, 2, 3);
        for (int f = 0; f <= FIGURES; f++) {
            int there = f;
            due(there, () -> x.count(0));
            due(there, () -> x.count(1));
            due(there, () -> x.count(2));
            if (f < FIGURES) {
                x.figure(f, 2, 2, 1, 1);
            }
        }
        x.figure(3, 0, 0, 6, 12);
        due(4, () -> x.count(1));
        due(3, () -> x.count(2));
        x.ink(5, 11, 1, 1, 1);
        due(3, () -> x.count(1));
        x.ink(2, 2, 1, 1, 1);
        due(4, () -> x.count(0));
        due(0, () -> x.count(1));
        due(0, () -> x.count(2));
        due(0, () -> meetingOn(1).count(2));
        due(1, () -> meetingOn(0).count(2));
        about("5: inked cells; 6: the least tone of the cells of the note 0; 7: the greatest one; 8: saved states");
        for (int cell = 0; cell < ROWS * COLUMNS; cell++) {
            int row = cell / COLUMNS;
            int column = cell % COLUMNS;
            NoteWatermarks one = new NoteWatermarks();
            one.ink(row, column, 1, 1, 1);
            due(1, () -> one.count(5));
            one.wire(0, row, column, 1);
            due(10, () -> one.count(6));
            due(11, () -> one.count(7));
            one.wire(0, row, column, -1);
            due(9, () -> one.count(6));
            due(10, () -> one.count(7));
            due(3, () -> one.count(8));
        }
        NoteWatermarks all = new NoteWatermarks();
        all.ink(0, 0, 6, 12, 9);
        due(72, () -> all.count(5));
        due(10, () -> all.count(6));
        due(10, () -> all.count(7));
        NoteWatermarks second = new NoteWatermarks();
        second.size(0, 13);
        second.wire(0, 0, 12, 3);
        second.wire(1, 0, 12, -3);
        due(10, () -> second.count(7));
        due(10, () -> second.count(6));
    }

    private static void notesLikeTheFirst() {
        about("4: notes, of 1 to 99, that are like the note 0");
        NoteWatermarks x = new NoteWatermarks();
        due(99, () -> x.count(4));
        x.set(1, 17);
        x.size(0, 9);
        x.size(1, 11);
        x.size(2, 9);
        x.wire(0, 0, 0, 3);
        x.wire(1, 1, 0, 3);
        due(99, () -> x.count(3));
        due(1, () -> x.count(4));
        x.size(1, 12);
        due(36, () -> x.count(3));
        due(2, () -> x.count(4));
        x.size(1, 16);
        due(144, () -> x.count(3));
        due(0, () -> x.count(4));
        // Each fifth note and each fourth one: 20, 40, 60 and 80, but not 0 and not 100.
        x.size(0, 4);
        x.size(1, 5);
        x.size(2, 4);
        due(20, () -> x.count(3));
        due(4, () -> x.count(4));
    }

    // ---- promises 21 to 23

    private static void bestPhases() {
        about("Returns the phase with which the size of the contrast on the note 0 .. is greatest, of several the lowest");
        for (int circumference = 4; circumference <= 16; circumference++) {
            for (int phase = 0; phase < circumference; phase++) {
                for (int now : new int[] {0, circumference - 1}) {
                    NoteWatermarks x = new NoteWatermarks();
                    x.set(0, 5);
                    x.size(1, circumference);
                    x.turn(1, now);
                    x.figure(3, 2, 2, 1, 1);
                    due(0, () -> x.bestPhase(1, 3));
                    x.wire(1, 2, (7 + phase) % circumference, phase % 2 == 0 ? 3 : -3);
                    int best = phase;
                    int other = (phase + 2) % circumference;
                    due(best, () -> x.bestPhase(1, 3));
                    x.wire(1, 2, (7 + other) % circumference, phase % 2 == 0 ? 3 : -3);
                    due(Math.min(best, other), () -> x.bestPhase(1, 3));
                    due(now, () -> x.roll(1, 1));
                    due(0, () -> x.bestPhase(0, 3));
                }
            }
        }
        NoteWatermarks x = new NoteWatermarks();
        x.figure(0, 2, 2, 1, 1);
        x.wire(0, 2, 5, 2);
        x.wire(0, 2, 9, -3);
        due(7, () -> x.bestPhase(0, 0));
        x.wire(0, 2, 5, 3);
        due(3, () -> x.bestPhase(0, 0));
        // Of the other rolls' wires, too, and on the note 0 alone.
        x.wire(1, 2, 2, -3);
        due(7, () -> x.bestPhase(0, 0));
        x.wire(1, 2, 2, 3);
        due(3, () -> x.bestPhase(0, 0));
        x.set(1, 13);
        due(3, () -> x.bestPhase(0, 0));
        x.figure(0, 0, 0, 6, 12);
        due(0, () -> x.bestPhase(0, 0));
    }

    private static int bestPitchOf(int first, int second, int third) {
        int best = 0;
        int fewest = MOST;
        for (int pitch = 30; pitch >= 12; pitch--) {
            int notes = 1;
            while (notes * pitch % first != 0 || notes * pitch % second != 0 || notes * pitch % third != 0) {
                notes++;
            }
            if (notes <= fewest) {
                best = pitch;
                fewest = notes;
            }
        }
        return best;
    }

    private static void bestPitches() {
        about("Returns the pitch, 12 to 30, with which the paper comes round behind the fewest notes, "
                + "of several the lowest");
        for (int first = 4; first <= 16; first++) {
            for (int second = 4; second <= 16; second++) {
                NoteWatermarks x = new NoteWatermarks();
                x.size(0, first);
                x.size(1, second);
                x.set(1, 12 + first);
                for (int third = 4; third <= 16; third++) {
                    x.size(2, third);
                    int due = bestPitchOf(first, second, third);
                    due(due, x::bestPitch);
                }
                int pitch = 12 + first;
                due(pitch, () -> x.setting(1));
            }
        }
        NoteWatermarks x = new NoteWatermarks();
        due(12, x::bestPitch);
        x.size(0, 15);
        x.size(1, 15);
        x.size(2, 15);
        due(15, x::bestPitch);
        x.size(1, 10);
        due(30, x::bestPitch);
    }

    private static void standingOut() {
        about("Returns of the rectangle of so many rows and columns whose size of the contrast on the note 0 is greatest, "
                + "of several the one with the lowest first row, of these with the lowest first column");
        for (int first = 0; first < ROWS * COLUMNS; first++) {
            for (int second = first; second < ROWS * COLUMNS; second++) {
                int row = first / COLUMNS;
                int column = first % COLUMNS;
                int rowsOff = second / COLUMNS - row;
                int columnsOff = Math.abs(second % COLUMNS - column);
                if (rowsOff >= 2 || columnsOff >= 2 || first == second) {
                    NoteWatermarks x = new NoteWatermarks();
                    x.wire(0, second / COLUMNS, second % COLUMNS, 3);
                    x.wire(0, row, column, (first + second) % 2 == 0 ? 3 : -3);
                    due(row, () -> x.standsOut(1, 1, 0));
                    due(column, () -> x.standsOut(1, 1, 1));
                    due(3, () -> x.standsOut(1, 1, 2));
                }
            }
        }
    }

    private static void standingOutOfEachSize() {
        about("rows: 1 to 6; columns: 1 to 12");
        IntUnaryOperator height = place -> (place * place * 5 + place * 3 + place / 7) % 7 - 3;
        for (int rows = 1; rows <= ROWS; rows++) {
            for (int columns = 1; columns <= COLUMNS; columns++) {
                NoteWatermarks x = new NoteWatermarks();
                for (int cell = 0; cell < ROWS * COLUMNS; cell++) {
                    x.wire(2, cell / COLUMNS, cell % COLUMNS, height.applyAsInt(cell + rows * 17));
                }
                x.ink(1, 3, 2, 4, 4);
                int[] best = {0, 0, -1};
                for (int row = 0; row + rows <= ROWS; row++) {
                    for (int column = 0; column + columns <= COLUMNS; column++) {
                        x.figure(0, row, column, rows, columns);
                        int size = Math.abs(x.contrast(0, 0) - 1000);
                        if (size > best[2]) {
                            best = new int[] {row, column, size};
                        }
                    }
                }
                int high = rows;
                int wide = columns;
                for (int w = 0; w <= 2; w++) {
                    int what = w;
                    int due = best[w];
                    due(due, () -> x.standsOut(high, wide, what));
                }
            }
        }
        NoteWatermarks plain = new NoteWatermarks();
        for (int what = 0; what <= 2; what++) {
            int which = what;
            refused(plain, NO_ARGUMENT, () -> plain.standsOut(0, 1, which), () -> plain.standsOut(7, 1, which),
                    () -> plain.standsOut(1, 0, which), () -> plain.standsOut(1, 13, which));
            for (int rows : new int[] {1, 6}) {
                for (int columns : new int[] {1, 12}) {
                    due(0, () -> plain.standsOut(rows, columns, which));
                }
            }
        }
    }

    // ---- promises 24 and 25

    private static void goodness() {
        about("Returns the figures that are good, of all notes from 0 to 9, as a double, divided by 10.0 times "
                + "the number of figures; 0.0 without figures");
        due(0.0, () -> new NoteWatermarks().goodness());
        due(0.1, () -> meetingOn(0).goodness());
        due(0.1, () -> meetingOn(9).goodness());
        due(0.0, () -> meetingOn(10).goodness());
        for (int g = 0; g <= FIGURES; g++) {
            NoteWatermarks x = new NoteWatermarks();
            x.wire(0, 2, 2, 3);
            int good = g;
            for (int figure = 0; figure < FIGURES; figure++) {
                x.figure(figure, figure < good ? 2 : 5, figure < good ? 2 : 8, 1, 1);
            }
            due(good * 10 / 40.0, x::goodness);
            x.drop(3);
            due(Math.min(good, 3) * 10 / 30.0, x::goodness);
            x.drop(2);
            x.drop(1);
            due(good == 0 ? 0.0 : 1.0, x::goodness);
            x.drop(0);
            due(0.0, x::goodness);
        }
        NoteWatermarks third = new NoteWatermarks();
        third.size(0, 9);
        third.wire(0, 2, 2, 3);
        third.figure(0, 2, 2, 1, 1);
        due(4 / 10.0, third::goodness);
        third.figure(2, 0, 0, 6, 12);
        third.figure(3, 5, 5, 1, 1);
        due(4 / 30.0, third::goodness);
    }

    private static void digestOfTheBuffer() {
        about("the length of the buffer and each of its character codes");
        NoteWatermarks x = new NoteWatermarks();
        long empty = x.digest();
        // Behind an empty buffer the length 0 is the last value; one more character changes it by 1.
        x.append(33);
        due(31 * (empty + 1) + 33, x::digest);
        x.append(126);
        due(31 * (31 * (empty + 2) + 33) + 126, x::digest);
        x.clearBuffer();
        due(empty, x::digest);
        long hash = empty + 60;
        for (int i = 0; i < 60; i++) {
            x.append(33 + i);
            hash = 31 * hash + 33 + i;
        }
        long due = hash;
        due(due, x::digest);
    }

    public static void main(String[] args) {
        newObject();
        objectsApart();
        previousWire();
        phaseOfAnotherSize();
        turnedRound();
        clearedWires();
        inkedRectangles();
        inkOfRectangleAlone();
        figuresFromThereOn();
        inPlaceOfTheOneThatWas();
        dropped();
        previousSetting();
        wiresOfARoll();
        notesAroundARoll();
        what();
        sumOfWires();
        firstNote();
        goodNotes();
        noFigure();
        counts();
        notesLikeTheFirst();
        bestPhases();
        bestPitches();
        standingOut();
        standingOutOfEachSize();
        goodness();
        digestOfTheBuffer();
        CHECK.end();
    }
}
