import java.util.ArrayDeque;
import java.util.ArrayList;
import java.util.Deque;
import java.util.HashSet;
import java.util.List;
import java.util.Set;
import java.util.regex.Matcher;
import java.util.regex.Pattern;

/**
 * The document once more, word by word and as slow as it likes: sets of
 * cells, patterns and searches in place of formulas. Arguments are taken as
 * right; what wrong ones answer is told by the test.
 */
final class Model {
    private static final Pattern WIRES = Pattern.compile("PART(;PART)*".replace("PART",
            "[0-2][0-5][a-p][+-][0-3](\\*[2-9])?"));

    /** What undo restores. */
    private static final class Sheet implements Cloneable {
        int[][][] wires = new int[3][6][16];
        int[] circumference = {12, 12, 12};
        int[] phase = new int[3];
        int[][] ink = new int[6][12];
        List<Set<List<Integer>>> figures = new ArrayList<>(java.util.Collections.nCopies(4, null));
        int[] settings = {0, 12, 2};

        Sheet copy() {
            Sheet copy = new Sheet();
            for (int roll = 0; roll < 3; roll++) {
                for (int row = 0; row < 6; row++) {
                    copy.wires[roll][row] = wires[roll][row].clone();
                }
            }
            for (int row = 0; row < 6; row++) {
                copy.ink[row] = ink[row].clone();
            }
            copy.circumference = circumference.clone();
            copy.phase = phase.clone();
            copy.figures = new ArrayList<>(figures);
            copy.settings = settings.clone();
            return copy;
        }
    }

    private Sheet now = new Sheet();
    private final Deque<Sheet> saved = new ArrayDeque<>();
    private final StringBuilder buffer = new StringBuilder();

    private void save() {
        saved.addLast(now.copy());
        if (saved.size() > 6) {
            saved.removeFirst();
        }
    }

    int wire(int roll, int row, int column, int height) {
        save();
        int was = now.wires[roll][row][column];
        now.wires[roll][row][column] = height;
        return was + 100;
    }

    int size(int roll, int circumference) {
        save();
        int was = now.circumference[roll];
        now.circumference[roll] = circumference;
        now.phase[roll] %= circumference;
        return was;
    }

    int turn(int roll, int by) {
        save();
        now.phase[roll] = Math.floorMod(now.phase[roll] + by, now.circumference[roll]);
        return now.phase[roll];
    }

    int clear(int roll) {
        save();
        int were = 0;
        for (int[] row : now.wires[roll]) {
            for (int column = 0; column < 16; column++) {
                were += row[column] != 0 ? 1 : 0;
                row[column] = 0;
            }
        }
        return were;
    }

    int ink(int row, int column, int rows, int columns, int ink) {
        save();
        int changed = 0;
        for (List<Integer> cell : rectangle(row, column, rows, columns)) {
            changed += now.ink[cell.get(0)][cell.get(1)] != ink ? 1 : 0;
            now.ink[cell.get(0)][cell.get(1)] = ink;
        }
        return changed;
    }

    private static Set<List<Integer>> rectangle(int row, int column, int rows, int columns) {
        Set<List<Integer>> cells = new HashSet<>();
        for (int y = row; y < row + rows; y++) {
            for (int x = column; x < column + columns; x++) {
                cells.add(List.of(y, x));
            }
        }
        return cells;
    }

    private static Set<List<Integer>> frame(Set<List<Integer>> figure) {
        Set<List<Integer>> frame = new HashSet<>();
        for (List<Integer> cell : figure) {
            for (List<Integer> near : rectangle(cell.get(0) - 1, cell.get(1) - 1, 3, 3)) {
                boolean isOnNote = near.get(0) >= 0 && near.get(0) < 6
                        && near.get(1) >= 0 && near.get(1) < 12;
                if (isOnNote && !figure.contains(near)) {
                    frame.add(near);
                }
            }
        }
        return frame;
    }

    int figure(int figure, int row, int column, int rows, int columns) {
        save();
        now.figures.set(figure, rectangle(row, column, rows, columns));
        return frame(now.figures.get(figure)).size();
    }

    int drop(int figure) {
        save();
        return now.figures.set(figure, null) == null ? 0 : 1;
    }

    int set(int setting, int value) {
        save();
        int was = now.settings[setting];
        now.settings[setting] = value;
        return was;
    }

    boolean isFull() {
        return buffer.length() == 60;
    }

    int append(int code) {
        return buffer.append((char) code).length();
    }

    int clearBuffer() {
        int had = buffer.length();
        buffer.setLength(0);
        return had;
    }

    int firstError() {
        for (int end = 1; end <= buffer.length(); end++) {
            Matcher matcher = WIRES.matcher(buffer.substring(0, end));
            if (!matcher.matches() && !matcher.hitEnd()) {
                return end - 1;
            }
        }
        return buffer.length();
    }

    boolean isComplete() {
        return WIRES.matcher(buffer).matches();
    }

    int bend() {
        save();
        for (String part : buffer.toString().split(";")) {
            int times = part.length() > 5 ? part.charAt(6) - '0' : 1;
            int height = Integer.parseInt(part.substring(3, 5));
            for (int i = 0; i < times && part.charAt(2) - 'a' + i < 16; i++) {
                now.wires[part.charAt(0) - '0'][part.charAt(1) - '0'][part.charAt(2) - 'a' + i] = height;
            }
        }
        buffer.setLength(0);
        int wires = 0;
        for (int[][] roll : now.wires) {
            for (int[] row : roll) {
                for (int wire : row) {
                    wires += wire != 0 ? 1 : 0;
                }
            }
        }
        return wires;
    }

    boolean hasSaved() {
        return !saved.isEmpty();
    }

    int undo() {
        now = saved.removeLast();
        return saved.size();
    }

    private int rollColumn(int roll, int x) {
        return (x + now.phase[roll]) % now.circumference[roll];
    }

    private int paperColumn(int note, int column) {
        return now.settings[0] + note * now.settings[1] + column;
    }

    private int notesAround(int... rolls) {
        for (int note = 1; ; note++) {
            boolean isSame = true;
            for (int roll : rolls) {
                isSame &= rollColumn(roll, paperColumn(note, 0)) == rollColumn(roll, paperColumn(0, 0));
            }
            if (isSame) {
                return note;
            }
        }
    }

    int roll(int roll, int what) {
        int wires = 0;
        int sum = 1000;
        for (int[] row : now.wires[roll]) {
            for (int column = 0; column < now.circumference[roll]; column++) {
                wires += row[column] != 0 ? 1 : 0;
                sum += row[column];
            }
        }
        return new int[] {now.circumference[roll], now.phase[roll], wires, sum, notesAround(roll)}[what];
    }

    int cell(int note, int row, int column, int what) {
        int wires = 0;
        for (int roll = 0; roll < 3; roll++) {
            wires += now.wires[roll][row][rollColumn(roll, paperColumn(note, column))];
        }
        int tone = 10 + wires < 0 ? 0 : 10 + wires > 19 ? 19 : 10 + wires;
        int ink = now.ink[row][column];
        return new int[] {tone, ink, tone - ink + 100, wires + 100}[what];
    }

    private int light(Set<List<Integer>> cells, int note) {
        int light = 0;
        for (List<Integer> cell : cells) {
            light += cell(note, cell.get(0), cell.get(1), 2) - 100;
        }
        return light;
    }

    private int contrast(Set<List<Integer>> cells, int note) {
        Set<List<Integer>> frame = frame(cells);
        if (frame.isEmpty()) {
            return 0;
        }
        int above = light(cells, note) * frame.size() - light(frame, note) * cells.size();
        int below = cells.size() * frame.size();
        int quotient = 0;
        while ((quotient + 1) * below <= above) {
            quotient++;
        }
        while (quotient * below > above) {
            quotient--;
        }
        return quotient;
    }

    private boolean isHidden(int figure) {
        Set<Integer> inks = new HashSet<>();
        Set<List<Integer>> cells = new HashSet<>(now.figures.get(figure));
        cells.addAll(frame(now.figures.get(figure)));
        for (List<Integer> cell : cells) {
            inks.add(now.ink[cell.get(0)][cell.get(1)]);
        }
        return inks.size() == 1;
    }

    private boolean isSeen(int figure, int note) {
        return Math.abs(contrast(now.figures.get(figure), note)) >= now.settings[2];
    }

    private boolean isGood(int figure, int note) {
        return now.figures.get(figure) != null && isHidden(figure) && isSeen(figure, note);
    }

    int figureOf(int figure, int what) {
        Set<List<Integer>> cells = now.figures.get(figure);
        if (cells == null) {
            return -1;
        }
        if (what < 3) {
            return what == 0 ? cells.size() : what == 1 ? frame(cells).size() : isHidden(figure) ? 1 : 0;
        }
        int first = -1;
        int good = 0;
        for (int note = 99; note >= 0; note--) {
            first = isSeen(figure, note) ? note : first;
            good += isGood(figure, note) ? 1 : 0;
        }
        return what == 3 ? first : good;
    }

    int contrast(int figure, int note) {
        return now.figures.get(figure) == null ? -1 : contrast(now.figures.get(figure), note) + 1000;
    }

    private List<Integer> tones(int note) {
        List<Integer> tones = new ArrayList<>();
        for (int row = 0; row < 6; row++) {
            for (int column = 0; column < 12; column++) {
                tones.add(cell(note, row, column, 0));
            }
        }
        return tones;
    }

    int count(int what) {
        int[] counts = new int[9];
        for (int figure = 0; figure < 4; figure++) {
            if (now.figures.get(figure) != null) {
                counts[0]++;
                counts[1] += isHidden(figure) ? 1 : 0;
                counts[2] += isGood(figure, 0) ? 1 : 0;
            }
        }
        counts[3] = notesAround(0, 1, 2);
        List<Integer> first = tones(0);
        for (int note = 1; note <= 99; note++) {
            counts[4] += tones(note).equals(first) ? 1 : 0;
        }
        for (int[] row : now.ink) {
            for (int ink : row) {
                counts[5] += ink > 0 ? 1 : 0;
            }
        }
        counts[6] = java.util.Collections.min(first);
        counts[7] = java.util.Collections.max(first);
        counts[8] = saved.size();
        return counts[what];
    }

    int setting(int setting) {
        return now.settings[setting];
    }

    int bestPhase(int roll, int figure) {
        if (now.figures.get(figure) == null) {
            return -1;
        }
        Sheet kept = now;
        List<Integer> sizes = new ArrayList<>();
        for (int phase = 0; phase < kept.circumference[roll]; phase++) {
            now = kept.copy();
            now.phase[roll] = phase;
            sizes.add(Math.abs(contrast(figure, 0) - 1000));
        }
        now = kept;
        return sizes.indexOf(java.util.Collections.max(sizes));
    }

    int bestPitch() {
        Sheet kept = now;
        List<Integer> notes = new ArrayList<>();
        for (int pitch = 12; pitch <= 30; pitch++) {
            now = kept.copy();
            now.settings[1] = pitch;
            notes.add(notesAround(0, 1, 2));
        }
        now = kept;
        return 12 + notes.indexOf(java.util.Collections.min(notes));
    }

    int standsOut(int rows, int columns, int what) {
        int[] best = {0, 0, -1};
        for (int row = 0; row + rows <= 6; row++) {
            for (int column = 0; column + columns <= 12; column++) {
                int size = Math.abs(contrast(rectangle(row, column, rows, columns), 0));
                if (size > best[2]) {
                    best = new int[] {row, column, size};
                }
            }
        }
        return best[what];
    }

    double goodness() {
        double good = 0;
        int figures = 0;
        for (int figure = 0; figure < 4; figure++) {
            figures += now.figures.get(figure) != null ? 1 : 0;
            for (int note = 0; note <= 9; note++) {
                good += isGood(figure, note) ? 1 : 0;
            }
        }
        return figures == 0 ? 0.0 : good / (10.0 * figures);
    }

    long digest() {
        List<Long> values = new ArrayList<>();
        for (int what = 0; what <= 8; what++) {
            values.add((long) count(what));
        }
        for (int setting = 0; setting <= 2; setting++) {
            values.add((long) setting(setting));
        }
        for (int roll = 0; roll <= 2; roll++) {
            for (int what = 0; what <= 4; what++) {
                values.add((long) roll(roll, what));
            }
            values.add((long) bestPhase(roll, 0));
        }
        for (int row = 0; row < 6; row++) {
            for (int column = 0; column < 12; column++) {
                values.add((long) cell(1, row, column, 0));
                values.add((long) cell(1, row, column, 2));
            }
        }
        for (int figure = 0; figure <= 3; figure++) {
            for (int what = 0; what <= 4; what++) {
                values.add((long) figureOf(figure, what));
            }
            for (int note = 0; note <= 2; note++) {
                values.add((long) contrast(figure, note));
            }
        }
        values.add((long) bestPitch());
        for (int what = 0; what <= 2; what++) {
            values.add((long) standsOut(2, 3, what));
        }
        values.add(Double.doubleToLongBits(goodness()));
        values.add((long) buffer.length());
        buffer.chars().forEach(code -> values.add((long) code));
        long hash = 2837;
        for (long value : values) {
            hash = 31 * hash + value;
        }
        return hash;
    }
}
