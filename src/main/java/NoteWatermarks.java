/**
 * Watermarks of banknotes: rolls with wires that press the paper thinner or
 * leave it thicker, notes that are cut from the paper, and figures that are
 * hidden by the ink and seen in the light alone.
 */
public final class NoteWatermarks {
    /** There is nothing to return. */
    public static final int NONE = -1;

    private static final int ROLLS = 3;
    private static final int ROWS = 6;
    private static final int ROLL_COLUMNS = 16;
    private static final int LEAST_CIRCUMFERENCE = 4;
    private static final int MOST_HEIGHT = 3;
    private static final int MOST_TURN = 99;

    private static final int NOTES = 1000;
    private static final int NOTE_COLUMNS = 12;
    private static final int NOTE_CELLS = ROWS * NOTE_COLUMNS;
    private static final int MOST_INK = 9;
    private static final int FIGURES = 4;
    private static final int NOTES_SEARCHED = 100;
    private static final int NOTES_JUDGED = 10;

    private static final int SETTINGS = 3;
    private static final int FIRST_COLUMN = 0;
    private static final int PITCH = 1;
    private static final int SEEN_CONTRAST = 2;
    private static final int LEAST_PITCH = 12;
    private static final int MOST_PITCH = 30;

    /** Added to answers that may be below 0, as NONE is below 0 too. */
    private static final int MORE = 100;
    private static final int MUCH_MORE = 1000;

    private final State state;
    private final Rolls rolls;
    private final Note view;
    private final Note otherView;
    private final Figures figures;
    private final WireText text;

    public NoteWatermarks() {
        state = new State();
        rolls = new Rolls(state);
        view = new Note(state);
        otherView = new Note(state);
        figures = new Figures(state, view);
        text = new WireText();
    }

    // ---- rolls

    public int wire(int roll, int row, int column, int height)
            throws IndexOutOfBoundsException, IllegalArgumentException {
        needPlace(isIndex(roll, ROLLS) && isIndex(row, ROWS) && isIndex(column, ROLL_COLUMNS));
        needArgument(isBetween(height, -MOST_HEIGHT, MOST_HEIGHT));
        state.save();
        int previous = state.at(State.wirePlace(roll, row, column));
        state.put(State.wirePlace(roll, row, column), height);
        return previous + MORE;
    }

    public int size(int roll, int circumference)
            throws IndexOutOfBoundsException, IllegalArgumentException {
        needPlace(isIndex(roll, ROLLS));
        needArgument(isBetween(circumference, LEAST_CIRCUMFERENCE, ROLL_COLUMNS));
        state.save();
        int previous = state.at(State.circumferencePlace(roll));
        state.put(State.circumferencePlace(roll), circumference);
        rolls.turnTo(roll, state.at(State.phasePlace(roll)));
        return previous;
    }

    public int turn(int roll, int by) throws IndexOutOfBoundsException, IllegalArgumentException {
        needPlace(isIndex(roll, ROLLS));
        needArgument(isBetween(by, -MOST_TURN, MOST_TURN));
        state.save();
        rolls.turnTo(roll, state.at(State.phasePlace(roll)) + by);
        return state.at(State.phasePlace(roll));
    }

    public int clear(int roll) throws IndexOutOfBoundsException {
        needPlace(isIndex(roll, ROLLS));
        state.save();
        int were = rolls.wiresUpTo(roll, ROLL_COLUMNS);
        rolls.flatten(roll);
        return were;
    }

    // ---- notes

    public int ink(int row, int column, int rows, int columns, int ink)
            throws IndexOutOfBoundsException, IllegalArgumentException {
        needPlace(isIndex(row, ROWS) && isIndex(column, NOTE_COLUMNS));
        needArgument(isBetween(rows, 1, ROWS - row) && isBetween(columns, 1, NOTE_COLUMNS - column)
                && isBetween(ink, 0, MOST_INK));
        state.save();
        int changed = 0;
        for (int inkRow = row; inkRow < row + rows; inkRow++) {
            for (int inkColumn = column; inkColumn < column + columns; inkColumn++) {
                int place = State.inkPlace(inkRow, inkColumn);
                if (state.at(place) != ink) {
                    state.put(place, ink);
                    changed++;
                }
            }
        }
        return changed;
    }

    public int figure(int figure, int row, int column, int rows, int columns)
            throws IndexOutOfBoundsException, IllegalArgumentException {
        needPlace(isIndex(figure, FIGURES) && isIndex(row, ROWS) && isIndex(column, NOTE_COLUMNS));
        needArgument(isBetween(rows, 1, ROWS - row)
                && isBetween(columns, 1, NOTE_COLUMNS - column));
        state.save();
        figures.place(figure, row, column, rows, columns);
        return figures.frameCells(figure);
    }

    public int drop(int figure) throws IndexOutOfBoundsException {
        needPlace(isIndex(figure, FIGURES));
        state.save();
        int was = figures.isThere(figure) ? 1 : 0;
        figures.place(figure, 0, 0, 0, 0);
        return was;
    }

    public int set(int setting, int value)
            throws IndexOutOfBoundsException, IllegalArgumentException {
        needPlace(isIndex(setting, SETTINGS));
        needArgument(isSettingValue(setting, value));
        state.save();
        int previous = state.at(State.settingPlace(setting));
        state.put(State.settingPlace(setting), value);
        return previous;
    }

    // ---- texts

    public int append(int code) throws IllegalArgumentException, IllegalStateException {
        needArgument(isBetween(code, 33, 126));
        if (text.isFull()) {
            throw new IllegalStateException("the buffer is full");
        }
        text.add(code);
        return text.length();
    }

    public int clearBuffer() {
        int had = text.length();
        text.empty();
        return had;
    }

    public int firstError() {
        return text.firstWrong();
    }

    public int bend() throws IllegalArgumentException {
        needArgument(text.isComplete());
        state.save();
        text.bendWires(state);
        text.empty();
        int wires = 0;
        for (int roll = 0; roll < ROLLS; roll++) {
            wires += rolls.wiresUpTo(roll, ROLL_COLUMNS);
        }
        return wires;
    }

    public int undo() throws IllegalStateException {
        if (state.savedStates() == 0) {
            throw new IllegalStateException("no state is saved");
        }
        state.restore();
        return state.savedStates();
    }

    // ---- looks; nothing is changed

    public int roll(int roll, int what)
            throws IndexOutOfBoundsException, IllegalArgumentException {
        needPlace(isIndex(roll, ROLLS));
        needArgument(isBetween(what, 0, 4));
        int circumference = state.at(State.circumferencePlace(roll));
        switch (what) {
            case 0:
                return circumference;
            case 1:
                return state.at(State.phasePlace(roll));
            case 2:
                return rolls.wiresUpTo(roll, circumference);
            case 3:
                return rolls.heightsUpTo(roll, circumference) + MUCH_MORE;
            default:
                return rolls.notesAround(roll, state.at(State.settingPlace(PITCH)));
        }
    }

    public int cell(int note, int row, int column, int what)
            throws IndexOutOfBoundsException, IllegalArgumentException {
        needPlace(isIndex(note, NOTES) && isIndex(row, ROWS) && isIndex(column, NOTE_COLUMNS));
        needArgument(isBetween(what, 0, 3));
        view.look(note);
        switch (what) {
            case 0:
                return view.toneAt(row, column);
            case 1:
                return state.at(State.inkPlace(row, column));
            case 2:
                return view.lightAt(row, column) + MORE;
            default:
                return view.pressureAt(row, column) + MORE;
        }
    }

    public int figureOf(int figure, int what)
            throws IndexOutOfBoundsException, IllegalArgumentException {
        needPlace(isIndex(figure, FIGURES));
        needArgument(isBetween(what, 0, 4));
        if (!figures.isThere(figure)) {
            return NONE;
        }
        switch (what) {
            case 0:
                return figures.cells(figure);
            case 1:
                return figures.frameCells(figure);
            case 2:
                return figures.isHidden(figure) ? 1 : 0;
            case 3:
                return figures.firstNoteSeen(figure);
            default:
                return figures.notesGood(figure);
        }
    }

    public int contrast(int figure, int note) throws IndexOutOfBoundsException {
        needPlace(isIndex(figure, FIGURES) && isIndex(note, NOTES));
        return figures.isThere(figure) ? figures.contrastOn(figure, note) + MUCH_MORE : NONE;
    }

    public int count(int what) throws IllegalArgumentException {
        needArgument(isBetween(what, 0, 8));
        switch (what) {
            case 0:
                return figures.howMany();
            case 1:
                return figures.howManyHidden();
            case 2:
                return figures.howManyGood(0);
            case 3:
                return rolls.notesAllAround(state.at(State.settingPlace(PITCH)));
            case 4:
                return notesLikeFirst();
            case 5:
                return inkedCells();
            case 6:
                view.look(0);
                return view.leastTone();
            case 7:
                view.look(0);
                return view.greatestTone();
            default:
                return state.savedStates();
        }
    }

    public int setting(int setting) throws IndexOutOfBoundsException {
        needPlace(isIndex(setting, SETTINGS));
        return state.at(State.settingPlace(setting));
    }

    // ---- what would be; nothing is changed

    public int bestPhase(int roll, int figure) throws IndexOutOfBoundsException {
        needPlace(isIndex(roll, ROLLS) && isIndex(figure, FIGURES));
        if (!figures.isThere(figure)) {
            return NONE;
        }
        int phasePlace = State.phasePlace(roll);
        int phaseNow = state.at(phasePlace);
        int circumference = state.at(State.circumferencePlace(roll));
        int best = 0;
        int bestSize = -1;
        // The roll is really turned, and turned back behind the loop: a copy
        // of the state would be dearer.
        for (int phase = 0; phase < circumference; phase++) {
            state.put(phasePlace, phase);
            int size = Math.abs(figures.contrastOn(figure, 0));
            if (size > bestSize) {
                best = phase;
                bestSize = size;
            }
        }
        state.put(phasePlace, phaseNow);
        return best;
    }

    public int bestPitch() {
        int best = LEAST_PITCH;
        int fewest = rolls.notesAllAround(LEAST_PITCH);
        for (int pitch = LEAST_PITCH + 1; pitch <= MOST_PITCH; pitch++) {
            int notes = rolls.notesAllAround(pitch);
            if (notes < fewest) {
                best = pitch;
                fewest = notes;
            }
        }
        return best;
    }

    public int standsOut(int rows, int columns, int what) throws IllegalArgumentException {
        needArgument(isBetween(rows, 1, ROWS) && isBetween(columns, 1, NOTE_COLUMNS)
                && isBetween(what, 0, 2));
        view.look(0);
        int bestRow = 0;
        int bestColumn = 0;
        int bestSize = -1;
        for (int row = 0; row <= ROWS - rows; row++) {
            for (int column = 0; column <= NOTE_COLUMNS - columns; column++) {
                int size = Math.abs(view.contrastOf(row, column, rows, columns));
                if (size > bestSize) {
                    bestRow = row;
                    bestColumn = column;
                    bestSize = size;
                }
            }
        }
        return what == 0 ? bestRow : what == 1 ? bestColumn : bestSize;
    }

    public double goodness() {
        int number = figures.howMany();
        if (number == 0) {
            return 0.0;
        }
        int good = 0;
        for (int note = 0; note < NOTES_JUDGED; note++) {
            good += figures.howManyGood(note);
        }
        return (double) good / (10.0 * (double) number);
    }

    public long digest() {
        long hash = 2837;
        for (int what = 0; what <= 8; what++) {
            hash = 31 * hash + count(what);
        }
        for (int setting = 0; setting < SETTINGS; setting++) {
            hash = 31 * hash + setting(setting);
        }
        for (int roll = 0; roll < ROLLS; roll++) {
            for (int what = 0; what <= 4; what++) {
                hash = 31 * hash + roll(roll, what);
            }
            hash = 31 * hash + bestPhase(roll, 0);
        }
        hash = withSecondNote(hash);
        for (int figure = 0; figure < FIGURES; figure++) {
            for (int what = 0; what <= 4; what++) {
                hash = 31 * hash + figureOf(figure, what);
            }
            for (int note = 0; note <= 2; note++) {
                hash = 31 * hash + contrast(figure, note);
            }
        }
        hash = 31 * hash + bestPitch();
        for (int what = 0; what <= 2; what++) {
            hash = 31 * hash + standsOut(2, 3, what);
        }
        hash = 31 * hash + bitsOfShare(goodness());
        hash = 31 * hash + text.length();
        for (int index = 0; index < text.length(); index++) {
            hash = 31 * hash + text.codeAt(index);
        }
        return hash;
    }

    private long withSecondNote(long before) {
        long hash = before;
        view.look(1);
        for (int row = 0; row < ROWS; row++) {
            for (int column = 0; column < NOTE_COLUMNS; column++) {
                hash = 31 * hash + view.toneAt(row, column);
                hash = 31 * hash + (view.lightAt(row, column) + MORE);
            }
        }
        return hash;
    }

    private int notesLikeFirst() {
        int alike = 0;
        view.look(0);
        for (int number = 1; number < NOTES_SEARCHED; number++) {
            otherView.look(number);
            if (view.isLike(otherView)) {
                alike++;
            }
        }
        return alike;
    }

    private int inkedCells() {
        int inked = 0;
        for (int row = 0; row < ROWS; row++) {
            for (int column = 0; column < NOTE_COLUMNS; column++) {
                if (state.at(State.inkPlace(row, column)) != 0) {
                    inked++;
                }
            }
        }
        return inked;
    }

    /**
     * The bits of a share from 0.0 to 1.0, worked out here as LANGUAGE.md
     * leaves no call of the library for them. Doubling is exact, so nothing
     * is rounded on the way.
     */
    private static long bitsOfShare(double share) {
        if (!(share > 0.0)) {
            return 0L;
        }
        double fraction = share;
        long exponent = 1023;
        while (fraction < 1.0 && exponent > 1) {
            fraction = fraction * 2.0;
            exponent--;
        }
        long mantissa = (long) (fraction * 4503599627370496.0);
        return (exponent << 52) + (mantissa - (1L << 52));
    }

    private static boolean isSettingValue(int setting, int value) {
        switch (setting) {
            case FIRST_COLUMN:
                return isBetween(value, 0, 99);
            case PITCH:
                return isBetween(value, LEAST_PITCH, MOST_PITCH);
            default:
                return isBetween(value, 1, 9);
        }
    }

    private static boolean isBetween(int value, int least, int most) {
        return value >= least && value <= most;
    }

    private static boolean isIndex(int value, int howMany) {
        return value >= 0 && value < howMany;
    }

    private static void needPlace(boolean isThere) {
        if (!isThere) {
            throw new IndexOutOfBoundsException("there is no such place");
        }
    }

    private static void needArgument(boolean isAllowed) {
        if (!isAllowed) {
            throw new IllegalArgumentException("an argument is not allowed");
        }
    }

    /** The rest of a division that is rounded down; 0 for no divisor. */
    private static int modulo(int value, int divisor) {
        if (divisor < 1) {
            return 0;
        }
        int rest = value % divisor;
        return rest < 0 ? rest + divisor : rest;
    }

    /** The least number, 1 or more, of steps after which a multiple of the divisor is reached. */
    private static int stepsToMultiple(int step, int divisor) {
        for (int steps = 1; steps < divisor; steps++) {
            if (modulo(steps * step, divisor) == 0) {
                return steps;
            }
        }
        return divisor;
    }

    /**
     * All that undo restores, as one row of numbers, with the saved states
     * behind one another in a second row.
     */
    private static final class State {
        private static final int MOST_SAVED = 6;
        private static final int FIGURE_PARTS = 4;
        private static final int CIRCUMFERENCES = ROLLS * ROWS * ROLL_COLUMNS;
        private static final int PHASES = CIRCUMFERENCES + ROLLS;
        private static final int INKS = PHASES + ROLLS;
        private static final int FIGURE_RECTANGLES = INKS + NOTE_CELLS;
        private static final int SETTING_VALUES = FIGURE_RECTANGLES + FIGURES * FIGURE_PARTS;
        private static final int LENGTH = SETTING_VALUES + SETTINGS;

        private final int[] values = new int[LENGTH];
        /** The latest one first, so that the oldest one falls off the end. */
        private final int[] saved = new int[MOST_SAVED * LENGTH];
        private int savedCount = 0;

        State() {
            for (int roll = 0; roll < ROLLS; roll++) {
                values[CIRCUMFERENCES + roll] = 12;
            }
            values[SETTING_VALUES + PITCH] = 12;
            values[SETTING_VALUES + SEEN_CONTRAST] = 2;
        }

        static int wirePlace(int roll, int row, int column) {
            return (roll * ROWS + row) * ROLL_COLUMNS + column;
        }

        static int circumferencePlace(int roll) {
            return CIRCUMFERENCES + roll;
        }

        static int phasePlace(int roll) {
            return PHASES + roll;
        }

        static int inkPlace(int row, int column) {
            return INKS + row * NOTE_COLUMNS + column;
        }

        /** The parts 0 to 3 are the first row, the first column, the rows and the columns. */
        static int figurePlace(int figure, int part) {
            return FIGURE_RECTANGLES + figure * FIGURE_PARTS + part;
        }

        static int settingPlace(int setting) {
            return SETTING_VALUES + setting;
        }

        int at(int place) {
            return place >= 0 && place < values.length ? values[place] : 0;
        }

        void put(int place, int value) {
            if (place >= 0 && place < values.length) {
                values[place] = value;
            }
        }

        int savedStates() {
            return savedCount;
        }

        void save() {
            System.arraycopy(saved, 0, saved, LENGTH, (MOST_SAVED - 1) * LENGTH);
            System.arraycopy(values, 0, saved, 0, LENGTH);
            savedCount = Math.min(savedCount + 1, MOST_SAVED);
        }

        void restore() {
            if (savedCount > 0) {
                System.arraycopy(saved, 0, values, 0, LENGTH);
                System.arraycopy(saved, LENGTH, saved, 0, (MOST_SAVED - 1) * LENGTH);
                savedCount--;
            }
        }
    }

    /** The rolls of a state. */
    private static final class Rolls {
        private final State state;

        Rolls(State state) {
            this.state = state;
        }

        void turnTo(int roll, int column) {
            int circumference = state.at(State.circumferencePlace(roll));
            state.put(State.phasePlace(roll), modulo(column, circumference));
        }

        void flatten(int roll) {
            for (int row = 0; row < ROWS; row++) {
                for (int column = 0; column < ROLL_COLUMNS; column++) {
                    state.put(State.wirePlace(roll, row, column), 0);
                }
            }
        }

        /** How many wires are not 0, of the columns before the end. */
        int wiresUpTo(int roll, int end) {
            int wires = 0;
            for (int row = 0; row < ROWS; row++) {
                for (int column = 0; column < end; column++) {
                    if (state.at(State.wirePlace(roll, row, column)) != 0) {
                        wires++;
                    }
                }
            }
            return wires;
        }

        /** The sum of the wires of the columns before the end. */
        int heightsUpTo(int roll, int end) {
            int heights = 0;
            for (int row = 0; row < ROWS; row++) {
                for (int column = 0; column < end; column++) {
                    heights += state.at(State.wirePlace(roll, row, column));
                }
            }
            return heights;
        }

        /** Behind how many notes of a pitch the roll touches with the same column again. */
        int notesAround(int roll, int pitch) {
            return stepsToMultiple(pitch, state.at(State.circumferencePlace(roll)));
        }

        /** The least common multiple of what notesAround answers for the rolls. */
        int notesAllAround(int pitch) {
            int notes = 1;
            for (int roll = 0; roll < ROLLS; roll++) {
                notes *= stepsToMultiple(notes, notesAround(roll, pitch));
            }
            return notes;
        }
    }

    /** A note of the paper that has been looked at; its rows are used again for the next one. */
    private static final class Note {
        private static final int PLAIN_TONE = 10;
        private static final int MOST_TONE = 19;

        private final State state;
        private final int[] pressures = new int[NOTE_CELLS];
        private final int[] tones = new int[NOTE_CELLS];
        private final int[] lights = new int[NOTE_CELLS];

        Note(State state) {
            this.state = state;
        }

        void look(int number) {
            press(state.at(State.settingPlace(FIRST_COLUMN))
                    + number * state.at(State.settingPlace(PITCH)));
            for (int place = 0; place < NOTE_CELLS; place++) {
                int tone = Math.max(0, Math.min(MOST_TONE, PLAIN_TONE + pressures[place]));
                tones[place] = tone;
                lights[place] = tone
                        - state.at(State.inkPlace(place / NOTE_COLUMNS, place % NOTE_COLUMNS));
            }
        }

        /** Adds up the wires that touch the note whose first column of the paper is given. */
        private void press(int firstColumn) {
            for (int place = 0; place < NOTE_CELLS; place++) {
                pressures[place] = 0;
            }
            for (int roll = 0; roll < ROLLS; roll++) {
                int start = firstColumn + state.at(State.phasePlace(roll));
                int circumference = state.at(State.circumferencePlace(roll));
                for (int column = 0; column < NOTE_COLUMNS; column++) {
                    int rollColumn = modulo(start + column, circumference);
                    for (int row = 0; row < ROWS; row++) {
                        pressures[row * NOTE_COLUMNS + column] +=
                                state.at(State.wirePlace(roll, row, rollColumn));
                    }
                }
            }
        }

        /** The sum of the wires that touch a cell. */
        int pressureAt(int row, int column) {
            int place = row * NOTE_COLUMNS + column;
            return isIndex(place, NOTE_CELLS) ? pressures[place] : 0;
        }

        int toneAt(int row, int column) {
            int place = row * NOTE_COLUMNS + column;
            return isIndex(place, NOTE_CELLS) ? tones[place] : 0;
        }

        int lightAt(int row, int column) {
            int place = row * NOTE_COLUMNS + column;
            return isIndex(place, NOTE_CELLS) ? lights[place] : 0;
        }

        int leastTone() {
            int least = MOST_TONE;
            for (int place = 0; place < NOTE_CELLS; place++) {
                least = Math.min(least, tones[place]);
            }
            return least;
        }

        int greatestTone() {
            int greatest = 0;
            for (int place = 0; place < NOTE_CELLS; place++) {
                greatest = Math.max(greatest, tones[place]);
            }
            return greatest;
        }

        boolean isLike(Note other) {
            for (int place = 0; place < NOTE_CELLS; place++) {
                if (tones[place] != other.tones[place]) {
                    return false;
                }
            }
            return true;
        }

        int contrastOf(int row, int column, int rows, int columns) {
            int cells = rows * columns;
            int frameCells = cellsOfFrame(row, column, rows, columns);
            if (cells < 1 || frameCells < 1) {
                return 0;
            }
            int light = lightOf(row, column, row + rows, column + columns);
            int lightWithFrame = lightOf(row - 1, column - 1, row + rows + 1, column + columns + 1);
            return Math.floorDiv(light * frameCells - (lightWithFrame - light) * cells,
                    cells * frameCells);
        }

        /** The sum of the light of those cells of a rectangle that are on the note. */
        private int lightOf(int row, int column, int endRow, int endColumn) {
            int light = 0;
            for (int y = Math.max(row, 0); y < Math.min(endRow, ROWS); y++) {
                for (int x = Math.max(column, 0); x < Math.min(endColumn, NOTE_COLUMNS); x++) {
                    light += lights[y * NOTE_COLUMNS + x];
                }
            }
            return light;
        }

        static int cellsOfFrame(int row, int column, int rows, int columns) {
            int rowsWithFrame = Math.min(row + rows + 1, ROWS) - Math.max(row - 1, 0);
            int columnsWithFrame = Math.min(column + columns + 1, NOTE_COLUMNS)
                    - Math.max(column - 1, 0);
            return rowsWithFrame * columnsWithFrame - rows * columns;
        }
    }

    /** The figures of a state; one without rows is not there. */
    private static final class Figures {
        private final State state;
        private final Note note;

        Figures(State state, Note note) {
            this.state = state;
            this.note = note;
        }

        void place(int figure, int row, int column, int rows, int columns) {
            state.put(State.figurePlace(figure, 0), row);
            state.put(State.figurePlace(figure, 1), column);
            state.put(State.figurePlace(figure, 2), rows);
            state.put(State.figurePlace(figure, 3), columns);
        }

        private int firstRow(int figure) {
            return state.at(State.figurePlace(figure, 0));
        }

        private int firstColumn(int figure) {
            return state.at(State.figurePlace(figure, 1));
        }

        private int rows(int figure) {
            return state.at(State.figurePlace(figure, 2));
        }

        private int columns(int figure) {
            return state.at(State.figurePlace(figure, 3));
        }

        boolean isThere(int figure) {
            return rows(figure) > 0;
        }

        int cells(int figure) {
            return rows(figure) * columns(figure);
        }

        int frameCells(int figure) {
            return Note.cellsOfFrame(firstRow(figure), firstColumn(figure),
                    rows(figure), columns(figure));
        }

        boolean isHidden(int figure) {
            int row = firstRow(figure);
            int column = firstColumn(figure);
            int ink = state.at(State.inkPlace(row, column));
            int endRow = Math.min(row + rows(figure) + 1, ROWS);
            int endColumn = Math.min(column + columns(figure) + 1, NOTE_COLUMNS);
            for (int y = Math.max(row - 1, 0); y < endRow; y++) {
                for (int x = Math.max(column - 1, 0); x < endColumn; x++) {
                    if (state.at(State.inkPlace(y, x)) != ink) {
                        return false;
                    }
                }
            }
            return true;
        }

        int contrastOn(int figure, int number) {
            note.look(number);
            return note.contrastOf(firstRow(figure), firstColumn(figure),
                    rows(figure), columns(figure));
        }

        private boolean isSeen(int contrast) {
            return Math.abs(contrast) >= state.at(State.settingPlace(SEEN_CONTRAST));
        }

        int firstNoteSeen(int figure) {
            for (int number = 0; number < NOTES_SEARCHED; number++) {
                if (isSeen(contrastOn(figure, number))) {
                    return number;
                }
            }
            return NONE;
        }

        int notesGood(int figure) {
            if (!isHidden(figure)) {
                return 0;
            }
            int good = 0;
            for (int number = 0; number < NOTES_SEARCHED; number++) {
                if (isSeen(contrastOn(figure, number))) {
                    good++;
                }
            }
            return good;
        }

        int howMany() {
            int there = 0;
            for (int figure = 0; figure < FIGURES; figure++) {
                if (isThere(figure)) {
                    there++;
                }
            }
            return there;
        }

        int howManyHidden() {
            int hidden = 0;
            for (int figure = 0; figure < FIGURES; figure++) {
                if (isThere(figure) && isHidden(figure)) {
                    hidden++;
                }
            }
            return hidden;
        }

        int howManyGood(int number) {
            int good = 0;
            for (int figure = 0; figure < FIGURES; figure++) {
                if (isThere(figure) && isHidden(figure) && isSeen(contrastOn(figure, number))) {
                    good++;
                }
            }
            return good;
        }
    }

    /** The buffer, read as wires. */
    private static final class WireText {
        private static final int MOST_CHARACTERS = 60;

        // What comes next in a part.
        private static final int ROLL = 0;
        private static final int ROW = 1;
        private static final int COLUMN = 2;
        private static final int SIGN = 3;
        private static final int HEIGHT = 4;
        private static final int STAR_OR_END = 5;
        private static final int TIMES = 6;
        private static final int END = 7;
        private static final int WRONG = -1;

        private final int[] codes = new int[MOST_CHARACTERS];
        private int length = 0;

        int length() {
            return length;
        }

        boolean isFull() {
            return length >= MOST_CHARACTERS;
        }

        void add(int code) {
            if (isIndex(length, codes.length)) {
                codes[length] = code;
                length++;
            }
        }

        void empty() {
            length = 0;
        }

        int codeAt(int index) {
            return isIndex(index, length) && index < codes.length ? codes[index] : 0;
        }

        int firstWrong() {
            int next = ROLL;
            for (int index = 0; index < length; index++) {
                next = behind(next, codeAt(index));
                if (next == WRONG) {
                    return index;
                }
            }
            return length;
        }

        boolean isComplete() {
            int next = ROLL;
            for (int index = 0; index < length && next != WRONG; index++) {
                next = behind(next, codeAt(index));
            }
            return next == STAR_OR_END || next == END;
        }

        /** What comes next behind a character, or WRONG if the character must not stand there. */
        private static int behind(int next, int code) {
            switch (next) {
                case ROLL:
                    return isBetween(code, '0', '2') ? ROW : WRONG;
                case ROW:
                    return isBetween(code, '0', '5') ? COLUMN : WRONG;
                case COLUMN:
                    return isBetween(code, 'a', 'p') ? SIGN : WRONG;
                case SIGN:
                    return code == '+' || code == '-' ? HEIGHT : WRONG;
                case HEIGHT:
                    return isBetween(code, '0', '3') ? STAR_OR_END : WRONG;
                case STAR_OR_END:
                    return code == '*' ? TIMES : code == ';' ? ROLL : WRONG;
                case TIMES:
                    return isBetween(code, '2', '9') ? END : WRONG;
                default:
                    return code == ';' ? ROLL : WRONG;
            }
        }

        /** Only for a complete text. */
        void bendWires(State state) {
            int start = 0;
            while (start < length) {
                boolean isRepeated = codeAt(start + STAR_OR_END) == '*';
                bendPart(state, start, isRepeated ? codeAt(start + TIMES) - '0' : 1);
                start += (isRepeated ? END : STAR_OR_END) + 1;
            }
        }

        private void bendPart(State state, int start, int times) {
            int roll = codeAt(start + ROLL) - '0';
            int row = codeAt(start + ROW) - '0';
            int first = codeAt(start + COLUMN) - 'a';
            int height = codeAt(start + HEIGHT) - '0';
            int wire = codeAt(start + SIGN) == '-' ? -height : height;
            int end = Math.min(first + times, ROLL_COLUMNS);
            for (int column = first; column < end; column++) {
                state.put(State.wirePlace(roll, row, column), wire);
            }
        }
    }
}
