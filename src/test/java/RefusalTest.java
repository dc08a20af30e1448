import java.util.ArrayList;
import java.util.List;
import java.util.TreeSet;

/**
 * Each argument of each call: the least and the greatest one that is allowed,
 * the one below and the one above, in all their combinations; which exception
 * is thrown, and that such a call changes nothing.
 */
public final class RefusalTest extends Sentences {
    private static final int MOST_CALLS = 400;

    private interface Program {
        Number answer(NoteWatermarks x, int[] arguments);
    }

    private interface Modelled {
        Number answer(Model model, int[] arguments);
    }

    /** The least or the greatest argument, which may hang on those before it. */
    private interface End {
        int of(int[] before);
    }

    private record Argument(End least, End most, String ifWrong) {
        boolean allows(int[] arguments, int value) {
            return value >= least.of(arguments) && value <= most.of(arguments);
        }
    }

    private record Method(String name, Program program, Modelled model, Argument... arguments) {
    }

    private static Argument place(int howMany) {
        return new Argument(before -> 0, before -> howMany - 1, NO_PLACE);
    }

    private static Argument number(int least, int most) {
        return new Argument(before -> least, before -> most, NO_ARGUMENT);
    }

    /** How many there are from a place on, of all; for a wrong place it does not matter. */
    private static Argument from(int argument, int all) {
        return new Argument(before -> 1, before -> all - Math.max(0, Math.min(all - 1, before[argument])),
                NO_ARGUMENT);
    }

    private static Argument value() {
        return new Argument(before -> before[0] == 0 ? 0 : before[0] == 1 ? 12 : 1,
                before -> before[0] == 0 ? 99 : before[0] == 1 ? 30 : 9, NO_ARGUMENT);
    }

    private static final List<Method> METHODS = List.of(
            new Method("wire", (x, a) -> x.wire(a[0], a[1], a[2], a[3]), (m, a) -> m.wire(a[0], a[1], a[2], a[3]),
                    place(3), place(6), place(16), number(-3, 3)),
            new Method("size", (x, a) -> x.size(a[0], a[1]), (m, a) -> m.size(a[0], a[1]),
                    place(3), number(4, 16)),
            new Method("turn", (x, a) -> x.turn(a[0], a[1]), (m, a) -> m.turn(a[0], a[1]),
                    place(3), number(-99, 99)),
            new Method("clear", (x, a) -> x.clear(a[0]), (m, a) -> m.clear(a[0]), place(3)),
            new Method("ink", (x, a) -> x.ink(a[0], a[1], a[2], a[3], a[4]),
                    (m, a) -> m.ink(a[0], a[1], a[2], a[3], a[4]),
                    place(6), place(12), from(0, 6), from(1, 12), number(0, 9)),
            new Method("figure", (x, a) -> x.figure(a[0], a[1], a[2], a[3], a[4]),
                    (m, a) -> m.figure(a[0], a[1], a[2], a[3], a[4]),
                    place(4), place(6), place(12), from(1, 6), from(2, 12)),
            new Method("drop", (x, a) -> x.drop(a[0]), (m, a) -> m.drop(a[0]), place(4)),
            new Method("set", (x, a) -> x.set(a[0], a[1]), (m, a) -> m.set(a[0], a[1]), place(3), value()),
            new Method("append", (x, a) -> x.append(a[0]), (m, a) -> m.append(a[0]), number(33, 126)),
            new Method("roll", (x, a) -> x.roll(a[0], a[1]), (m, a) -> m.roll(a[0], a[1]), place(3), number(0, 4)),
            new Method("cell", (x, a) -> x.cell(a[0], a[1], a[2], a[3]), (m, a) -> m.cell(a[0], a[1], a[2], a[3]),
                    place(1000), place(6), place(12), number(0, 3)),
            new Method("figureOf", (x, a) -> x.figureOf(a[0], a[1]), (m, a) -> m.figureOf(a[0], a[1]),
                    place(4), number(0, 4)),
            new Method("contrast", (x, a) -> x.contrast(a[0], a[1]), (m, a) -> m.contrast(a[0], a[1]),
                    place(4), place(1000)),
            new Method("count", (x, a) -> x.count(a[0]), (m, a) -> m.count(a[0]), number(0, 8)),
            new Method("setting", (x, a) -> x.setting(a[0]), (m, a) -> m.setting(a[0]), place(3)),
            new Method("bestPhase", (x, a) -> x.bestPhase(a[0], a[1]), (m, a) -> m.bestPhase(a[0], a[1]),
                    place(3), place(4)),
            new Method("standsOut", (x, a) -> x.standsOut(a[0], a[1], a[2]),
                    (m, a) -> m.standsOut(a[0], a[1], a[2]), number(1, 6), number(1, 12), number(0, 2)));

    /** What one method throws for arguments, or null; IndexOutOfBoundsException is named first. */
    private static String due(Method method, int[] arguments) {
        String due = null;
        for (int i = 0; i < arguments.length; i++) {
            Argument argument = method.arguments()[i];
            if (!argument.allows(arguments, arguments[i]) && !NO_PLACE.equals(due)) {
                due = argument.ifWrong();
            }
        }
        return due;
    }

    /** The edges of an argument from both sides, and what is far off. */
    private static Iterable<Integer> edges(Argument argument, int[] before) {
        int least = argument.least().of(before);
        int most = argument.most().of(before);
        return new TreeSet<>(List.of(LEAST, least - 1, least, most, most + 1, MOST));
    }

    private static void combine(Method method, int[] arguments, int next, List<int[]> combined) {
        if (next == arguments.length) {
            combined.add(arguments.clone());
            return;
        }
        for (int value : edges(method.arguments()[next], arguments)) {
            arguments[next] = value;
            combine(method, arguments, next + 1, combined);
        }
    }

    private static void eachCombination(Method method) {
        about(method.name() + ": the arguments that are allowed, and the exception that is named first");
        List<int[]> combined = new ArrayList<>();
        combine(method, new int[method.arguments().length], 0, combined);
        NoteWatermarks x = new NoteWatermarks();
        Model model = new Model();
        int calls = 0;
        for (int[] arguments : combined) {
            String refusal = due(method, arguments);
            NoteWatermarks now = x;
            Object want = refusal != null ? refusal : method.model().answer(model, arguments);
            due(want, () -> method.program().answer(now, arguments));
            calls++;
            if (calls % MOST_CALLS == 0 || calls == combined.size()) {
                due(model.digest(), now::digest);
                x = new NoteWatermarks();
                model = new Model();
            }
        }
    }

    /** One wrong argument among right ones. */
    private static void eachWrongArgument(Method method, List<Long> before) {
        for (int wrong = 0; wrong < method.arguments().length; wrong++) {
            int[] right = new int[method.arguments().length];
            for (int i = 0; i < right.length; i++) {
                right[i] = method.arguments()[i].most().of(right);
            }
            Argument argument = method.arguments()[wrong];
            for (int value : edges(argument, right)) {
                int[] arguments = right.clone();
                arguments[wrong] = value;
                String refusal = due(method, arguments);
                if (refusal != null) {
                    changesNothing(before, refusal, x -> method.program().answer(x, arguments));
                }
            }
        }
    }

    private interface Refused {
        Number answer(NoteWatermarks x);
    }

    private static void changesNothing(List<Long> before, String refusal, Refused call) {
        dueThat(everything(x -> {
            busy(x);
            due(refusal, () -> call.answer(x));
        }).equals(before));
    }

    private static void refusedCalls() {
        List<Long> before = everything(Sentences::busy);
        for (Method method : METHODS) {
            about(method.name() + ": A call that throws an exception changes nothing");
            eachWrongArgument(method, before);
        }
        about("bend: A call that throws an exception changes nothing");
        changesNothing(before, NO_ARGUMENT, NoteWatermarks::bend);
        about("append: A call that throws an exception changes nothing");
        Steps full = x -> {
            busy(x);
            type(x, "0".repeat(52));
        };
        List<Long> whole = everything(full);
        dueThat(everything(x -> {
            full.take(x);
            due(NO_STATE, () -> x.append(48));
            due(NO_ARGUMENT, () -> x.append(32));
        }).equals(whole));
        about("undo: A call that throws an exception changes nothing");
        Steps noneSaved = x -> {
            busy(x);
            for (int left = 6; left > 0; left--) {
                x.undo();
            }
        };
        List<Long> rest = everything(noneSaved);
        dueThat(everything(x -> {
            noneSaved.take(x);
            due(NO_STATE, x::undo);
            due(NO_STATE, x::undo);
        }).equals(rest));
    }

    private static void looksChangeNothing() {
        about("looks; what would be; nothing is changed");
        List<Long> before = everything(Sentences::busy);
        for (Method method : METHODS.subList(9, METHODS.size())) {
            List<int[]> combined = new ArrayList<>();
            combine(method, new int[method.arguments().length], 0, combined);
            combined.removeIf(arguments -> due(method, arguments) != null);
            dueThat(!combined.isEmpty() && everything(x -> {
                busy(x);
                for (int[] arguments : combined) {
                    method.program().answer(x, arguments);
                }
            }).equals(before));
        }
        List<Refused> others = List.of(NoteWatermarks::firstError, NoteWatermarks::bestPitch,
                NoteWatermarks::goodness, NoteWatermarks::digest);
        for (Refused call : others) {
            dueThat(everything(x -> {
                busy(x);
                call.answer(x);
            }).equals(before));
        }
    }

    public static void main(String[] args) {
        for (Method method : METHODS) {
            eachCombination(method);
        }
        refusedCalls();
        looksChangeNothing();
        CHECK.end();
    }
}
