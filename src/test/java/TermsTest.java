/** The document's section "Terms", sentence by sentence: each boundary that it names, from both sides. */
public final class TermsTest extends Sentences {

    // ---- paper, rolls

    private static void rowsOfThePaper() {
        about("The paper has 6 rows, numbered from 0");
        for (int roll = 0; roll < ROLLS; roll++) {
            for (int row = 0; row < ROWS; row++) {
                NoteWatermarks x = new NoteWatermarks();
                x.wire(roll, row, 4, 2);
                for (int cellRow = 0; cellRow < ROWS; cellRow++) {
                    int at = cellRow;
                    due(at == row ? 12 : 10, () -> x.cell(0, at, 4, 0));
                }
            }
        }
        NoteWatermarks x = new NoteWatermarks();
        refused(x, NO_PLACE, () -> x.wire(0, -1, 0, 0), () -> x.wire(0, 6, 0, 0));
    }

    /** Each column of a roll tells its number by the wires of its rows 0 and 1. */
    private static NoteWatermarks numberedColumns(int roll) {
        NoteWatermarks x = new NoteWatermarks();
        for (int column = 0; column < ROLL_COLUMNS; column++) {
            x.wire(roll, 0, column, column % 7 - 3);
            x.wire(roll, 1, column, column / 7 - 1);
        }
        return x;
    }

    private static int touched(NoteWatermarks x, int note, int column) {
        return x.cell(note, 0, column, 3) - 97 + 7 * (x.cell(note, 1, column, 3) - 99);
    }

    private static void columnsWithoutEnd() {
        about("The paper has .. columns without end, numbered from 0");
        for (int circumference = 4; circumference <= 16; circumference++) {
            NoteWatermarks x = numberedColumns(1);
            x.size(1, circumference);
            x.set(0, 99);
            x.set(1, 30);
            for (int column = 0; column < COLUMNS; column++) {
                int at = column;
                due((99 + 999 * 30 + at) % circumference, () -> touched(x, 999, at));
            }
        }
    }

    private static void numberOfRolls() {
        about("There are 3 rolls, numbered from 0");
        NoteWatermarks x = new NoteWatermarks();
        due(NO_PLACE, () -> x.roll(-1, 0));
        due(12, () -> x.roll(0, 0));
        due(12, () -> x.roll(2, 0));
        due(NO_PLACE, () -> x.roll(3, 0));
        x.wire(0, 0, 0, 1);
        x.wire(1, 0, 0, 1);
        x.wire(2, 0, 0, 1);
        due(13, () -> x.cell(0, 0, 0, 0));
    }

    private static void circumference() {
        about("A roll has a circumference of 4 to 16 columns, at first 12");
        for (int r = 0; r < ROLLS; r++) {
            int roll = r;
            NoteWatermarks x = new NoteWatermarks();
            due(12, () -> x.roll(roll, 0));
            due(NO_ARGUMENT, () -> x.size(roll, 3));
            due(NO_ARGUMENT, () -> x.size(roll, 17));
            due(12, () -> x.roll(roll, 0));
            for (int c = 4; c <= 16; c++) {
                int to = c;
                due(c == 4 ? 12 : to - 1, () -> x.size(roll, to));
                due(to, () -> x.roll(roll, 0));
            }
        }
    }

    private static void phase() {
        about("a phase, 0 to less than its circumference, at first 0");
        for (int circumference = 4; circumference <= 16; circumference++) {
            NoteWatermarks x = new NoteWatermarks();
            due(0, () -> x.roll(2, 1));
            x.size(2, circumference);
            int most = circumference - 1;
            due(most, () -> x.turn(2, most));
            due(most, () -> x.roll(2, 1));
            due(0, () -> x.turn(2, 1));
            due(0, () -> x.roll(2, 1));
            due(most, () -> x.turn(2, -1));
            due(most, () -> x.roll(2, 1));
            due(0, () -> x.roll(0, 1));
            due(0, () -> x.roll(1, 1));
        }
    }

    private interface Place {
        void look(int roll, int row, int column);
    }

    private static void eachPlaceFrom(int first, int end, Place place) {
        for (int number = first; number < end; number++) {
            place.look(number / (ROWS * ROLL_COLUMNS), number / ROLL_COLUMNS % ROWS, number % ROLL_COLUMNS);
        }
    }

    private static int someHeight(int roll, int row, int column) {
        return (5 * roll + 3 * row + column + column * column) % 7 - 3;
    }

    private static void wires() {
        about("a wire at each of its 6 rows and 16 columns, -3 to 3, at first 0");
        int all = ROLLS * ROWS * ROLL_COLUMNS;
        // An object has not calls enough for all wires to be changed and seen again.
        for (int first = 0; first < all; first += all / 2) {
            NoteWatermarks x = new NoteWatermarks();
            eachPlaceFrom(0, all, (roll, row, column) ->
                    due(100, () -> x.wire(roll, row, column, someHeight(roll, row, column))));
            eachPlaceFrom(first, first + all / 2, (roll, row, column) ->
                    due(100 + someHeight(roll, row, column), () -> x.wire(roll, row, column, 0)));
        }
        for (int roll = 0; roll < ROLLS; roll++) {
            int which = roll;
            NoteWatermarks last = new NoteWatermarks();
            due(100, () -> last.wire(which, 5, 15, 3));
            due(103, () -> last.wire(which, 5, 15, -3));
            due(NO_ARGUMENT, () -> last.wire(which, 5, 15, 4));
            due(NO_ARGUMENT, () -> last.wire(which, 5, 15, -4));
            due(97, () -> last.wire(which, 5, 15, 0));
            due(NO_PLACE, () -> last.wire(which, 5, 16, 0));
            due(NO_PLACE, () -> last.wire(which, 6, 15, 0));
            due(100, () -> last.wire(which, 5, 15, 0));
        }
    }

    private static void columnsOffThePaper() {
        about("columns from its circumference on do not touch the paper");
        for (int circumference = 4; circumference <= 16; circumference++) {
            NoteWatermarks x = new NoteWatermarks();
            x.size(0, circumference);
            int last = circumference - 1;
            for (int column = circumference; column < ROLL_COLUMNS; column++) {
                x.wire(0, 3, column, 3);
            }
            for (int n = 0; n < 16; n++) {
                int note = n;
                for (int column = 0; column < COLUMNS; column++) {
                    int at = column;
                    due(10, () -> x.cell(note, 3, at, 0));
                }
            }
            due(0, () -> x.roll(0, 2));
            due(1000, () -> x.roll(0, 3));
            x.wire(0, 3, last, 1);
            due(1, () -> x.roll(0, 2));
            due(1001, () -> x.roll(0, 3));
            due(last < COLUMNS ? 11 : 10, () -> x.count(7));
            x.set(0, last);
            due(11, () -> x.cell(0, 3, 0, 0));
        }
    }

    private static void touchedColumns() {
        about("The column x of the paper touches the column (x + the phase) modulo the circumference of each roll");
        for (int roll = 0; roll < ROLLS; roll++) {
            for (int circumference = 4; circumference <= 16; circumference++) {
                for (int phase : new int[] {0, 1, circumference - 1}) {
                    NoteWatermarks x = numberedColumns(roll);
                    x.size(roll, circumference);
                    x.turn(roll, phase);
                    for (int column = 0; column < 2 * COLUMNS; column++) {
                        int at = column;
                        due((at + phase) % x.roll(roll, 0), () -> touched(x, at / COLUMNS, at % COLUMNS));
                    }
                }
            }
        }
    }

    private static void tones() {
        about("The tone of a place of the paper is 10 and the sum of the wires that touch it, of all rolls, "
                + "but not below 0 and not above 19");
        NoteWatermarks x = new NoteWatermarks();
        for (int first = -3; first <= 3; first += 3) {
            for (int second = -3; second <= 3; second++) {
                for (int third = -3; third <= 3; third += 2) {
                    x.wire(0, 5, 11, first);
                    x.wire(1, 5, 11, second);
                    x.wire(2, 5, 11, third);
                    int sum = first + second + third;
                    due(10 + sum, () -> x.cell(0, 5, 11, 0));
                    due(100 + sum, () -> x.cell(0, 5, 11, 3));
                }
            }
        }
        NoteWatermarks most = new NoteWatermarks();
        NoteWatermarks least = new NoteWatermarks();
        for (int roll = 0; roll < ROLLS; roll++) {
            most.wire(roll, 0, 0, 3);
            least.wire(roll, 0, 0, -3);
        }
        due(19, () -> most.cell(0, 0, 0, 0));
        due(19, () -> most.count(7));
        due(1, () -> least.cell(0, 0, 0, 0));
        due(1, () -> least.count(6));
        for (int height : new int[] {-3, 3}) {
            NoteWatermarks full = new NoteWatermarks();
            for (int roll = 0; roll < ROLLS; roll++) {
                full.size(roll, 4);
                for (int place = 0; place < ROWS * 4; place++) {
                    full.wire(roll, place / 4, place % 4, height);
                }
            }
            int tone = 10 + 3 * height;
            due(tone, () -> full.count(6));
            due(tone, () -> full.count(7));
            due(tone, () -> full.cell(0, 0, 0, 0));
            due(tone, () -> full.cell(999, 5, 11, 0));
            due(99, () -> full.count(4));
            full.wire(0, 5, 3, height > 0 ? 2 : -2);
            due(Math.min(tone, height > 0 ? 18 : 2), () -> full.count(6));
            due(Math.max(tone, height > 0 ? 18 : 2), () -> full.count(7));
        }
    }

    // ---- notes, ink

    private static void cellsOfANote() {
        about("A note has 6 rows and 12 columns, numbered from 0");
        NoteWatermarks x = new NoteWatermarks();
        x.size(0, 16);
        x.wire(0, 0, 0, 1);
        x.wire(0, 0, 11, 2);
        x.wire(0, 5, 0, 3);
        x.wire(0, 5, 11, -1);
        x.wire(0, 5, 12, -2);
        due(11, () -> x.cell(0, 0, 0, 0));
        due(12, () -> x.cell(0, 0, 11, 0));
        due(13, () -> x.cell(0, 5, 0, 0));
        due(9, () -> x.cell(0, 5, 11, 0));
        due(8, () -> x.cell(1, 5, 0, 0));
        due(9, () -> x.count(6));
        for (int what = 0; what <= 3; what++) {
            int which = what;
            due(NO_PLACE, () -> x.cell(0, -1, 0, which));
            due(NO_PLACE, () -> x.cell(0, 6, 0, which));
            due(NO_PLACE, () -> x.cell(0, 0, -1, which));
            due(NO_PLACE, () -> x.cell(0, 0, 12, which));
        }
    }

    private static void numbersOfNotes() {
        about("The notes are numbered from 0 to 999");
        NoteWatermarks x = new NoteWatermarks();
        x.figure(0, 0, 0, 1, 1);
        due(NO_PLACE, () -> x.cell(-1, 0, 0, 0));
        due(10, () -> x.cell(0, 0, 0, 0));
        due(10, () -> x.cell(999, 0, 0, 0));
        due(NO_PLACE, () -> x.cell(1000, 0, 0, 0));
        due(NO_PLACE, () -> x.contrast(0, -1));
        due(1000, () -> x.contrast(0, 0));
        due(1000, () -> x.contrast(0, 999));
        due(NO_PLACE, () -> x.contrast(0, 1000));
    }

    private static void firstColumnOfANote() {
        about("the first column of the note n is the column setting 0 plus n * setting 1 of the paper");
        for (int first : new int[] {0, 1, 98, 99}) {
            for (int pitch : new int[] {12, 13, 29, 30}) {
                for (int note : new int[] {0, 1, 2, 99, 998, 999}) {
                    NoteWatermarks x = numberedColumns(2);
                    x.size(2, 13);
                    x.set(0, first);
                    x.set(1, pitch);
                    due((first + note * pitch) % 13, () -> touched(x, note, 0));
                    due((first + note * pitch + 11) % 13, () -> touched(x, note, 11));
                }
            }
        }
    }

    private static void inkOfCells() {
        about("Each cell of a note has ink, 0 to 9, at first 0, the same on all notes");
        for (int row = 0; row < ROWS; row++) {
            for (int column = 0; column < COLUMNS; column++) {
                int y = row;
                int x = column;
                NoteWatermarks paper = new NoteWatermarks();
                due(0, () -> paper.cell(0, y, x, 1));
                due(NO_ARGUMENT, () -> paper.ink(y, x, 1, 1, -1));
                due(NO_ARGUMENT, () -> paper.ink(y, x, 1, 1, 10));
                due(0, () -> paper.cell(0, y, x, 1));
                due(1, () -> paper.ink(y, x, 1, 1, 9));
                for (int note : new int[] {0, 1, 500, 998, 999}) {
                    due(9, () -> paper.cell(note, y, x, 1));
                    due(101, () -> paper.cell(note, y, x, 2));
                }
                due(1, () -> paper.ink(y, x, 1, 1, 0));
                due(0, () -> paper.cell(7, y, x, 1));
            }
        }
    }

    private static void light() {
        about("The light that comes through a cell is its tone less its ink (it can be below 0)");
        NoteWatermarks x = new NoteWatermarks();
        for (int roll = 0; roll < ROLLS; roll++) {
            x.wire(roll, 0, 0, 3);
            x.wire(roll, 2, 3, -3);
        }
        due(119, () -> x.cell(0, 0, 0, 2));
        due(101, () -> x.cell(0, 2, 3, 2));
        x.ink(2, 3, 1, 1, 1);
        due(100, () -> x.cell(0, 2, 3, 2));
        x.ink(2, 3, 1, 1, 2);
        due(99, () -> x.cell(0, 2, 3, 2));
        x.ink(0, 0, 6, 12, 9);
        due(110, () -> x.cell(0, 0, 0, 2));
        due(92, () -> x.cell(0, 2, 3, 2));
        due(101, () -> x.cell(0, 4, 4, 2));
    }

    // ---- figures

    private static void figuresThere() {
        about("There are 4 figures, numbered from 0; each is there or not, at first not");
        NoteWatermarks x = new NoteWatermarks();
        for (int there = 0; there <= FIGURES; there++) {
            int howMany = there;
            due(howMany, () -> x.count(0));
            for (int f = 0; f < FIGURES; f++) {
                int figure = f;
                due(figure < howMany ? 1 : -1, () -> x.figureOf(figure, 0));
                due(figure < howMany ? 1000 : -1, () -> x.contrast(figure, 0));
                due(figure < howMany ? 0 : -1, () -> x.bestPhase(0, figure));
            }
            due(NO_PLACE, () -> x.figureOf(-1, 0));
            due(NO_PLACE, () -> x.figureOf(4, 0));
            due(NO_PLACE, () -> x.figure(4, 0, 0, 1, 1));
            if (there < FIGURES) {
                x.figure(there, there, there, 1, 1);
            }
        }
    }

    private interface Rectangle {
        void look(int row, int column, int rows, int columns);
    }

    private static void eachRectangle(Rectangle rectangle) {
        for (int row = 0; row < ROWS; row++) {
            for (int column = 0; column < COLUMNS; column++) {
                for (int rows = 1; row + rows <= ROWS; rows++) {
                    for (int columns = 1; column + columns <= COLUMNS; columns++) {
                        rectangle.look(row, column, rows, columns);
                    }
                }
            }
        }
    }

    private static boolean isIn(int y, int x, int row, int column, int rows, int columns) {
        return y >= row && y < row + rows && x >= column && x < column + columns;
    }

    private static boolean isNear(int y, int x, int row, int column, int rows, int columns) {
        return isIn(y, x, row - 1, column - 1, rows + 2, columns + 2);
    }

    private static int cellsNear(int row, int column, int rows, int columns) {
        int near = 0;
        for (int cell = 0; cell < ROWS * COLUMNS; cell++) {
            near += isNear(cell / COLUMNS, cell % COLUMNS, row, column, rows, columns) ? 1 : 0;
        }
        return near;
    }

    private static void cellsAndFrames() {
        about("A figure is a rectangle .. from a row and a column to a row and a column, inclusive. Its frame is "
                + "all other cells of the note that have a side or a corner in common with one of its cells");
        eachRectangle((row, column, rows, columns) -> {
            NoteWatermarks x = new NoteWatermarks();
            int cells = rows * columns;
            int frame = cellsNear(row, column, rows, columns) - cells;
            due(frame, () -> x.figure(1, row, column, rows, columns));
            due(cells, () -> x.figureOf(1, 0));
            due(frame, () -> x.figureOf(1, 1));
        });
    }

    private static void lightOfFigures() {
        about("Its contrast on a note is the sum of the light of its cells .. less the sum of the light of the frame");
        eachRectangle((row, column, rows, columns) -> {
            NoteWatermarks x = new NoteWatermarks();
            x.figure(2, row, column, rows, columns);
            int cells = rows * columns;
            int frame = cellsNear(row, column, rows, columns) - cells;
            for (int cell = 0; cell < ROWS * COLUMNS; cell++) {
                int cellRow = cell / COLUMNS;
                int cellColumn = cell % COLUMNS;
                x.wire(0, cellRow, cellColumn, 3);
                int due = !isNear(cellRow, cellColumn, row, column, rows, columns) || frame == 0 ? 0
                        : isIn(cellRow, cellColumn, row, column, rows, columns) ? 3 / cells
                        : Math.floorDiv(-3, frame);
                due(1000 + due, () -> x.contrast(2, 0));
                x.wire(0, cellRow, cellColumn, 0);
            }
        });
    }

    private static void hidden() {
        about("A figure is hidden if all its cells, and all cells of its frame, have the same ink");
        eachRectangle((row, column, rows, columns) -> {
            NoteWatermarks x = new NoteWatermarks();
            x.figure(3, row, column, rows, columns);
            due(1, () -> x.figureOf(3, 2));
            for (int cell = 0; cell < ROWS * COLUMNS; cell++) {
                int cellRow = cell / COLUMNS;
                int cellColumn = cell % COLUMNS;
                x.ink(cellRow, cellColumn, 1, 1, 1);
                due(isNear(cellRow, cellColumn, row, column, rows, columns) ? 0 : 1, () -> x.figureOf(3, 2));
                x.ink(cellRow, cellColumn, 1, 1, 0);
            }
            due(1, () -> x.count(1));
        });
        NoteWatermarks x = new NoteWatermarks();
        x.ink(0, 0, 6, 12, 9);
        x.figure(0, 0, 0, 6, 12);
        due(1, () -> x.figureOf(0, 2));
        x.ink(5, 11, 1, 1, 8);
        due(0, () -> x.figureOf(0, 2));
        x.figure(0, 2, 2, 1, 1);
        due(1, () -> x.figureOf(0, 2));
        x.ink(2, 2, 1, 1, 8);
        due(0, () -> x.figureOf(0, 2));
        x.ink(1, 1, 3, 3, 8);
        due(1, () -> x.figureOf(0, 2));
    }

    /** A figure of the corner, whose frame has 3 cells, the wires of which add up as told. */
    private static int contrastInTheCorner(int cell, int frame) {
        NoteWatermarks x = new NoteWatermarks();
        x.figure(0, 5, 11, 1, 1);
        x.wire(0, 5, 11, cell);
        int[] rows = {4, 4, 5};
        int[] columns = {10, 11, 10};
        int left = frame;
        for (int place = 0; place < 3; place++) {
            int height = left > 3 ? 3 : left < -3 ? -3 : left;
            x.wire(1, rows[place], columns[place], height);
            left -= height;
        }
        return x.contrast(0, 0) - 1000;
    }

    private static void roundedContrast() {
        about("divided by the product of both numbers (divisions are rounded down, to the next lesser whole one)");
        for (int cell = -3; cell <= 3; cell++) {
            for (int frame = -9; frame <= 9; frame++) {
                int light = cell;
                int lightOfFrame = frame;
                due(Math.floorDiv(light * 3 - lightOfFrame, 3), () -> contrastInTheCorner(light, lightOfFrame));
            }
        }
        due(0, () -> contrastInTheCorner(0, -1));
        due(0, () -> contrastInTheCorner(0, -2));
        due(1, () -> contrastInTheCorner(0, -3));
        due(-1, () -> contrastInTheCorner(0, 1));
        due(-1, () -> contrastInTheCorner(0, 2));
        due(-1, () -> contrastInTheCorner(0, 3));
        due(-2, () -> contrastInTheCorner(0, 4));
    }

    private static void extremeContrasts() {
        about("The light .. can be below 0; Its contrast on a note is the sum of the light of its cells ..");
        NoteWatermarks x = new NoteWatermarks();
        x.figure(0, 2, 2, 1, 1);
        for (int roll = 0; roll < ROLLS; roll++) {
            for (int cell = 0; cell < 9; cell++) {
                x.wire(roll, 1 + cell / 3, 1 + cell % 3, cell == 4 ? 3 : -3);
            }
        }
        due(1018, () -> x.contrast(0, 0));
        x.ink(0, 0, 6, 12, 9);
        due(1018, () -> x.contrast(0, 0));
        x.ink(2, 2, 1, 1, 0);
        due(1027, () -> x.contrast(0, 0));
        NoteWatermarks y = new NoteWatermarks();
        y.figure(0, 2, 2, 1, 1);
        for (int roll = 0; roll < ROLLS; roll++) {
            for (int cell = 0; cell < 9; cell++) {
                y.wire(roll, 1 + cell / 3, 1 + cell % 3, cell == 4 ? -3 : 3);
            }
        }
        y.ink(2, 2, 1, 1, 9);
        due(973, () -> y.contrast(0, 0));
        due(27, () -> y.standsOut(1, 1, 2));
    }

    private static void noFrame() {
        about("0 if it has no frame");
        NoteWatermarks x = new NoteWatermarks();
        for (int column = 0; column < COLUMNS; column++) {
            x.wire(0, column % ROWS, column, 3);
        }
        x.figure(0, 0, 0, 6, 12);
        x.set(2, 1);
        due(1000, () -> x.contrast(0, 0));
        due(1000, () -> x.contrast(0, 999));
        due(0, () -> x.figureOf(0, 1));
        due(-1, () -> x.figureOf(0, 3));
        due(0, () -> x.figureOf(0, 4));
        due(0, () -> x.standsOut(6, 12, 2));
        due(0, () -> x.bestPhase(0, 0));
        x.figure(0, 0, 0, 5, 12);
        due(12, () -> x.figureOf(0, 1));
        x.figure(0, 0, 0, 6, 11);
        due(6, () -> x.figureOf(0, 1));
    }

    private static void sizeOfAContrast() {
        about("The size of a contrast is it, as rounded, without its sign");
        NoteWatermarks x = new NoteWatermarks();
        x.set(2, 1);
        x.figure(0, 2, 2, 1, 1);
        x.wire(0, 1, 1, 1);
        due(999, () -> x.contrast(0, 0));
        due(0, () -> x.figureOf(0, 3));
        x.wire(0, 1, 1, -3);
        x.wire(0, 1, 2, -3);
        x.wire(0, 1, 3, -1);
        due(1000, () -> x.contrast(0, 0));
        due(-1, () -> x.figureOf(0, 3));
        x.wire(0, 1, 3, -2);
        due(1001, () -> x.contrast(0, 0));
        due(0, () -> x.figureOf(0, 3));
        x.wire(0, 1, 1, 3);
        x.wire(0, 1, 2, 3);
        x.wire(0, 1, 3, 3);
        due(998, () -> x.contrast(0, 0));
        x.set(2, 2);
        due(0, () -> x.figureOf(0, 3));
        x.set(2, 3);
        due(-1, () -> x.figureOf(0, 3));
    }

    /** A figure of one cell, of a contrast from -9 to 9. */
    private static NoteWatermarks ofContrast(int contrast) {
        NoteWatermarks x = new NoteWatermarks();
        x.figure(0, 2, 2, 1, 1);
        int left = contrast;
        for (int roll = 0; roll < ROLLS; roll++) {
            int height = left > 3 ? 3 : left < -3 ? -3 : left;
            x.wire(roll, 2, 2, height);
            left -= height;
        }
        return x;
    }

    private static void seen() {
        about("A figure is seen on a note if the size of its contrast there is at least setting 2");
        for (int c = -9; c <= 9; c++) {
            int contrast = c;
            NoteWatermarks x = ofContrast(contrast);
            due(1000 + contrast, () -> x.contrast(0, 0));
            for (int least = 1; least <= 9; least++) {
                x.set(2, least);
                boolean isSeen = contrast >= least || -contrast >= least;
                due(isSeen ? 0 : -1, () -> x.figureOf(0, 3));
                due(isSeen ? 100 : 0, () -> x.figureOf(0, 4));
                due(isSeen ? 1 : 0, () -> x.count(2));
                due(isSeen ? 1.0 : 0.0, x::goodness);
            }
        }
    }

    private static void good() {
        about("A figure is good on a note if it is hidden and seen there");
        NoteWatermarks both = ofContrast(2);
        due(1, () -> both.count(2));
        NoteWatermarks notSeen = ofContrast(1);
        due(1, () -> notSeen.count(1));
        due(0, () -> notSeen.count(2));
        NoteWatermarks notHidden = ofContrast(9);
        notHidden.ink(1, 1, 1, 1, 1);
        due(0, () -> notHidden.figureOf(0, 3));
        due(0, () -> notHidden.count(1));
        due(0, () -> notHidden.count(2));
        due(0, () -> notHidden.figureOf(0, 4));
        NoteWatermarks neither = ofContrast(0);
        neither.ink(1, 1, 1, 1, 1);
        due(0, () -> neither.count(2));
    }

    // ---- register

    private static void alike() {
        about("Two notes are alike if all cells of both have the same tone");
        for (int row = 0; row < ROWS; row++) {
            for (int column = 0; column < ROLL_COLUMNS; column++) {
                for (int height = -1; height <= 1; height++) {
                    NoteWatermarks x = new NoteWatermarks();
                    x.size(1, 16);
                    x.wire(1, row, column, height);
                    x.ink(row, 3, 1, 1, 5);
                    due(height == 0 ? 99 : 24, () -> x.count(4));
                }
            }
        }
        NoteWatermarks evened = new NoteWatermarks();
        evened.size(0, 8);
        evened.size(1, 8);
        evened.wire(0, 2, 3, 3);
        due(49, () -> evened.count(4));
        evened.wire(1, 2, 3, -3);
        due(99, () -> evened.count(4));
        due(2, () -> evened.count(3));
    }

    private static int greatestDivisor(int a, int b) {
        return b == 0 ? a : greatestDivisor(b, a % b);
    }

    private static int leastMultiple(int a, int b) {
        return a / greatestDivisor(a, b) * b;
    }

    private static void comesRound() {
        about("The paper comes round behind n notes (1 or more), if each roll has the same column "
                + "at the first column of the note n as at that of the note 0");
        for (int first = 4; first <= 16; first++) {
            for (int second = 4; second <= 16; second++) {
                NoteWatermarks x = new NoteWatermarks();
                x.size(0, first);
                x.size(1, second);
                x.turn(0, 1);
                x.set(0, 7);
                int all = leastMultiple(first, second);
                for (int third = 4; third <= 16; third++) {
                    x.size(2, third);
                    int pitch = 12 + (first + second + third) % 19;
                    x.set(1, pitch);
                    int columns = leastMultiple(all, third);
                    due(columns / greatestDivisor(columns, pitch), () -> x.count(3));
                }
            }
        }
        NoteWatermarks x = new NoteWatermarks();
        due(1, () -> x.count(3));
        x.wire(0, 0, 0, 3);
        x.wire(1, 5, 11, -3);
        due(1, () -> x.count(3));
        x.size(0, 13);
        due(13, () -> x.count(3));
        x.size(1, 16);
        x.size(2, 15);
        x.set(1, 17);
        due(3120, () -> x.count(3));
    }

    // ---- settings

    private static void settingOf(int setting, int least, int most, int atFirst) {
        NoteWatermarks x = new NoteWatermarks();
        due(atFirst, () -> x.setting(setting));
        due(NO_ARGUMENT, () -> x.set(setting, least - 1));
        due(NO_ARGUMENT, () -> x.set(setting, most + 1));
        due(NO_ARGUMENT, () -> x.set(setting, LEAST));
        due(NO_ARGUMENT, () -> x.set(setting, MOST));
        due(atFirst, () -> x.setting(setting));
        due(0, () -> x.count(8));
        int before = atFirst;
        for (int v = least; v <= most; v++) {
            int value = v;
            due(before, () -> x.set(setting, value));
            due(value, () -> x.setting(setting));
            before = value;
        }
        for (int other = 0; other <= 2; other++) {
            int which = other;
            int[] plain = {0, 12, 2};
            due(which == setting ? most : plain[which], () -> x.setting(which));
        }
    }

    private static void settings() {
        about("0: the first column, 0 to 99, at first 0");
        settingOf(0, 0, 99, 0);
        about("1: the pitch, 12 to 30, at first 12");
        settingOf(1, 12, 30, 12);
        about("2: the contrast that is seen, 1 to 9, at first 2");
        settingOf(2, 1, 9, 2);
        about("(settings 0 to 2)");
        NoteWatermarks x = new NoteWatermarks();
        due(NO_PLACE, () -> x.setting(-1));
        due(NO_PLACE, () -> x.setting(3));
        due(NO_PLACE, () -> x.set(-1, 5));
        due(NO_PLACE, () -> x.set(3, 5));
    }

    // ---- the object

    private static void lastCalls() {
        about("An object is used for at most 512 calls after it has been made");
        NoteWatermarks x = new NoteWatermarks();
        for (int call = 1; call <= 504; call++) {
            x.wire(call % 3, call % 6, call % 16, call % 7 - 3);
        }
        due(6, () -> x.count(8));
        due(5, x::undo);
        x.ink(0, 0, 6, 12, 3);
        due(72, () -> x.count(5));
        due(1, () -> x.append(48));
        due(1, x::firstError);
        due(5, x::undo);
        due(0, () -> x.count(5));
        NoteWatermarks typing = new NoteWatermarks();
        for (int call = 1; call <= 510; call++) {
            due((call - 1) % 61 == 60 ? 60 : (call - 1) % 61 + 1,
                    call % 61 == 0 ? typing::clearBuffer : () -> typing.append(97));
        }
        due(0, typing::firstError);
        due(22, typing::clearBuffer);
    }

    public static void main(String[] args) {
        rowsOfThePaper();
        columnsWithoutEnd();
        numberOfRolls();
        circumference();
        phase();
        wires();
        columnsOffThePaper();
        touchedColumns();
        tones();
        cellsOfANote();
        numbersOfNotes();
        firstColumnOfANote();
        inkOfCells();
        light();
        figuresThere();
        cellsAndFrames();
        lightOfFigures();
        hidden();
        roundedContrast();
        extremeContrasts();
        noFrame();
        sizeOfAContrast();
        seen();
        good();
        alike();
        comesRound();
        settings();
        lastCalls();
        CHECK.end();
    }
}
