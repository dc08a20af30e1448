import java.util.ArrayList;
import java.util.List;

/** The section "Undo" and the promise 14: what is saved, when, how often, and what comes back. */
public final class UndoTest extends Sentences {

    private record Change(String name, Steps steps) {
    }

    /** One call of each undoable method that changes something behind busyWithThreeSaved. */
    private static final List<Change> CHANGES = List.of(
            new Change("wire", x -> x.wire(0, 0, 0, -3)),
            new Change("wire off the paper", x -> x.wire(1, 5, 15, 3)),
            new Change("size", x -> x.size(1, 4)),
            new Change("turn", x -> x.turn(2, -1)),
            new Change("clear", x -> x.clear(0)),
            new Change("ink", x -> x.ink(0, 0, 6, 12, 7)),
            new Change("ink of the last cell", x -> x.ink(5, 11, 1, 1, 1)),
            new Change("figure", x -> x.figure(1, 3, 3, 2, 2)),
            new Change("figure in place of the one that was", x -> x.figure(0, 3, 3, 2, 2)),
            new Change("drop", x -> x.drop(2)),
            new Change("set the first column", x -> x.set(0, 99)),
            new Change("set the pitch", x -> x.set(1, 30)),
            new Change("set the contrast that is seen", x -> x.set(2, 9)),
            new Change("bend", x -> {
                type(x, "00a-3*9;25h+1");
                x.bend();
            }));

    /** One call of each undoable method that leaves a new object with a figure as it is. */
    private static final List<Change> NO_CHANGES = List.of(
            new Change("wire", x -> x.wire(0, 0, 0, 0)),
            new Change("size", x -> x.size(0, 12)),
            new Change("turn", x -> x.turn(0, 0)),
            new Change("turn all round", x -> x.turn(0, -96)),
            new Change("clear", x -> x.clear(2)),
            new Change("ink", x -> x.ink(0, 0, 6, 12, 0)),
            new Change("figure", x -> x.figure(0, 5, 11, 1, 1)),
            new Change("drop", x -> x.drop(3)),
            new Change("set", x -> x.set(1, 12)),
            new Change("bend", x -> {
                type(x, "00a+0");
                x.bend();
            }));

    private static void busyWithThreeSaved(NoteWatermarks x) {
        busy(x);
        x.clearBuffer();
        x.undo();
        x.undo();
        x.undo();
    }

    private static void eachIsSaved() {
        List<Long> before = everything(UndoTest::busyWithThreeSaved);
        List<Long> savedAlone = everything(y -> {
            busyWithThreeSaved(y);
            y.wire(2, 5, 15, 0);
        });
        for (Change change : CHANGES) {
            about(change.name() + ": Each method that is marked \"undoable\" .. saves the state from before it: all");
            NoteWatermarks x = behind(UndoTest::busyWithThreeSaved);
            due(3, () -> x.count(8));
            change.steps().take(x);
            due(4, () -> x.count(8));
            due(3, x::undo);
            dueThat(!everything(y -> {
                busyWithThreeSaved(y);
                change.steps().take(y);
            }).equals(savedAlone));
            dueThat(everything(y -> {
                busyWithThreeSaved(y);
                change.steps().take(y);
                y.undo();
            }).equals(before));
        }
    }

    private static void alsoIfItChangesNothing() {
        Steps oneFigure = x -> x.figure(0, 5, 11, 1, 1);
        List<Long> before = everything(oneFigure);
        for (Change change : NO_CHANGES) {
            about(change.name() + ": saves the state from before it (also if it changes nothing)");
            NoteWatermarks x = behind(oneFigure);
            change.steps().take(x);
            due(2, () -> x.count(8));
            due(1, x::undo);
            dueThat(everything(y -> {
                oneFigure.take(y);
                change.steps().take(y);
                y.undo();
            }).equals(before));
        }
    }

    private static void notMarked() {
        about("Each method that is marked \"undoable\" (and no other)");
        NoteWatermarks x = new NoteWatermarks();
        x.turn(0, 1);
        due(1, () -> x.append('0'));
        due(1, () -> x.count(8));
        due(1, x::firstError);
        due(1, () -> x.count(8));
        due(1, x::clearBuffer);
        due(0, x::clearBuffer);
        due(1, () -> x.count(8));
        x.digest();
        x.bestPhase(0, 0);
        due(1, () -> x.count(8));
        due(0, x::undo);
        due(0, () -> x.count(8));
        due(NO_STATE, x::undo);
        due(0, () -> x.count(8));
    }

    private static void allButTheBuffer() {
        about("saves the state from before it ..: all, but the buffer and the saved states");
        NoteWatermarks x = new NoteWatermarks();
        type(x, "00a");
        x.wire(0, 0, 0, 2);
        type(x, "+1~");
        due(0, x::undo);
        due(5, x::firstError);
        due(6, x::clearBuffer);
        x.wire(0, 0, 0, 1);
        type(x, "00a+3");
        x.bend();
        type(x, "25");
        due(1, x::undo);
        due(2, x::firstError);
        due(101, () -> x.wire(0, 0, 0, 0));
        x.clearBuffer();
        due(1, x::undo);
        due(0, x::clearBuffer);
        NoteWatermarks cleared = new NoteWatermarks();
        type(cleared, "0");
        cleared.clear(0);
        cleared.clearBuffer();
        due(0, cleared::undo);
        due(0, cleared::clearBuffer);
    }

    private static void six() {
        about("At most 6 states are saved; the oldest one is dropped first");
        for (int changes = 0; changes <= 14; changes++) {
            NoteWatermarks x = new NoteWatermarks();
            for (int change = 1; change <= changes; change++) {
                int saved = Math.min(change, 6);
                x.set(0, change);
                due(saved, () -> x.count(8));
            }
            for (int back = 1; back <= Math.min(changes, 6); back++) {
                int left = Math.min(changes, 6) - back;
                int value = changes - back;
                due(left, x::undo);
                due(left, () -> x.count(8));
                due(value, () -> x.setting(0));
            }
            int oldest = Math.max(0, changes - 6);
            due(NO_STATE, x::undo);
            due(oldest, () -> x.setting(0));
            due(0, () -> x.count(8));
        }
    }

    /** As a person would keep it: a list from which the first one is taken when there are seven. */
    private static void backAndOn() {
        about("Restores the latest saved state, and drops it. Returns how many saved states are left");
        for (int changes = 0; changes <= 9; changes++) {
            for (int backs = 0; backs <= 6; backs++) {
                for (int more = 0; more <= 7; more++) {
                    NoteWatermarks x = new NoteWatermarks();
                    List<Integer> saved = new ArrayList<>();
                    int[] now = {0};
                    for (int change = 1; change <= changes; change++) {
                        change(x, saved, now, change);
                    }
                    for (int back = 0; back < backs; back++) {
                        back(x, saved, now);
                    }
                    for (int change = 1; change <= more; change++) {
                        change(x, saved, now, 50 + change);
                    }
                    for (int back = 0; back < 7; back++) {
                        back(x, saved, now);
                    }
                }
            }
        }
    }

    private static void change(NoteWatermarks x, List<Integer> saved, int[] now, int value) {
        saved.add(now[0]);
        if (saved.size() > 6) {
            saved.remove(0);
        }
        due(now[0], () -> x.set(0, value));
        now[0] = value;
        due(saved.size(), () -> x.count(8));
    }

    private static void back(NoteWatermarks x, List<Integer> saved, int[] now) {
        if (saved.isEmpty()) {
            due(NO_STATE, x::undo);
        } else {
            now[0] = saved.remove(saved.size() - 1);
            due(saved.size(), x::undo);
        }
        due(now[0], () -> x.setting(0));
    }

    public static void main(String[] args) {
        eachIsSaved();
        alsoIfItChangesNothing();
        notMarked();
        allButTheBuffer();
        six();
        backAndOn();
        CHECK.end();
    }
}
