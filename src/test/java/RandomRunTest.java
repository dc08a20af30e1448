import java.util.Random;

/**
 * Long runs of calls, always the same ones, each answered by the program
 * and by the model; what wrong arguments answer is told by ranges here.
 */
public final class RandomRunTest extends Sentences {
    private static final int RUNS = 300;
    /** The document promises nothing behind them. */
    private static final int MOST_CALLS = 512;
    private static final int[] FAR = {LEAST, -1000, -100, -4, -1, 31, 61, 100, 1000, MOST};

    private final Random random;
    private final int run;
    private final NoteWatermarks x = new NoteWatermarks();
    private final Model model = new Model();
    private String refusal;
    private String pending = "";
    private int calls = 0;

    private RandomRunTest(int run) {
        this.random = new Random(run);
        this.run = run;
    }

    /** An argument, mostly in its range; the first wrong one by the order of the throws clause counts. */
    private int argument(int least, int most, String ifWrong) {
        int kind = random.nextInt(150);
        int value = least + random.nextInt(most - least + 1);
        value = kind == 0 ? least - 1 : kind == 1 ? most + 1 : kind == 2 ? FAR[random.nextInt(FAR.length)] : value;
        refuseUnless(value >= least && value <= most, ifWrong);
        return value;
    }

    private void refuseUnless(boolean isRight, String ifWrong) {
        if (!isRight && (refusal == null || refusal.equals(NO_ARGUMENT) && ifWrong.equals(NO_PLACE))) {
            refusal = ifWrong;
        }
    }

    private int place(int howMany) {
        return argument(0, howMany - 1, NO_PLACE);
    }

    private int number(int least, int most) {
        return argument(least, most, NO_ARGUMENT);
    }

    /** How many there are from a place on; the place may be a wrong one. */
    private int extent(int from, int all) {
        return number(1, from >= 0 && from < all ? all - from : all);
    }

    /** One call more, unless the object has had its last one. */
    private void both(String call, Check.Call program, Check.Call modelled) {
        if (calls < MOST_CALLS) {
            calls++;
            about("run " + run + ", call " + calls + ", " + call);
            due(refusal != null ? refusal : Check.outcome(modelled), program);
        }
        refusal = null;
    }

    private void rolls() {
        int roll = place(3);
        int row = place(6);
        switch (random.nextInt(8)) {
            case 0 -> {
                refusal = null;
                int which = place(3);
                int to = number(4, 16);
                both("size", () -> x.size(which, to), () -> model.size(which, to));
            }
            case 1 -> {
                refusal = null;
                int which = place(3);
                int by = number(-99, 99);
                both("turn", () -> x.turn(which, by), () -> model.turn(which, by));
            }
            case 2 -> {
                refusal = null;
                if (random.nextInt(6) == 0) {
                    int which = place(3);
                    both("clear", () -> x.clear(which), () -> model.clear(which));
                }
            }
            default -> {
                int column = place(16);
                int height = number(-3, 3);
                both("wire", () -> x.wire(roll, row, column, height), () -> model.wire(roll, row, column, height));
            }
        }
    }

    private void notes() {
        int which = random.nextInt(7);
        if (which < 2) {
            int setting = place(3);
            int value = setting == 0 ? number(0, 99) : setting == 1 ? number(12, 30) : number(1, 9);
            both("set", () -> x.set(setting, value), () -> model.set(setting, value));
        } else if (which == 2) {
            int figure = place(4);
            both("drop", () -> x.drop(figure), () -> model.drop(figure));
        } else if (which == 3) {
            boolean isWhole = random.nextInt(3) > 0;
            int row = isWhole ? 0 : place(6);
            int column = isWhole ? 0 : place(12);
            int rows = isWhole ? 6 : extent(row, 6);
            int columns = isWhole ? 12 : extent(column, 12);
            int ink = number(0, 9);
            both("ink", () -> x.ink(row, column, rows, columns, ink), () -> model.ink(row, column, rows, columns, ink));
        } else {
            int figure = place(4);
            int row = place(6);
            int column = place(12);
            int rows = extent(row, 6);
            int columns = random.nextInt(3) == 0 ? extent(column, 12) : 1;
            both("figure", () -> x.figure(figure, row, column, rows, columns),
                    () -> model.figure(figure, row, column, rows, columns));
        }
    }

    private String somePart() {
        String part = "" + random.nextInt(3) + random.nextInt(6) + (char) ('a' + random.nextInt(16))
                + (random.nextBoolean() ? '+' : '-') + random.nextInt(4);
        return random.nextBoolean() ? part : part + "*" + (2 + random.nextInt(8));
    }

    private String someText() {
        StringBuilder text = new StringBuilder(somePart());
        for (int parts = random.nextInt(9); parts > 0; parts--) {
            text.append(';').append(somePart());
        }
        if (random.nextInt(3) == 0) {
            text.setCharAt(random.nextInt(text.length()), "0369;*+-aq~1"
                    .charAt(random.nextInt(12)));
        }
        return text.toString();
    }

    private void append() {
        if (pending.isEmpty()) {
            pending = someText();
        }
        int code = random.nextInt(60) == 0 ? number(33, 126) : pending.charAt(0);
        pending = pending.substring(1);
        refuseUnless(!model.isFull(), NO_STATE);
        if (code < 33 || code > 126) {
            refusal = NO_ARGUMENT;
        }
        both("append " + code, () -> x.append(code), () -> model.append(code));
    }

    private void texts() {
        int which = random.nextInt(60);
        if (which == 0) {
            both("clearBuffer", x::clearBuffer, model::clearBuffer);
        } else if (which < 4) {
            both("firstError", x::firstError, model::firstError);
        } else if (which < 6) {
            refuseUnless(model.isComplete(), NO_ARGUMENT);
            both("bend", x::bend, model::bend);
        } else {
            for (int times = pending.length() + 1; times > 0; times--) {
                append();
            }
            if (random.nextInt(3) == 0) {
                both("firstError", x::firstError, model::firstError);
                refuseUnless(model.isComplete(), NO_ARGUMENT);
                both("bend", x::bend, model::bend);
            }
            if (random.nextInt(3) == 0) {
                both("clearBuffer", x::clearBuffer, model::clearBuffer);
            }
        }
    }

    private void looks() {
        switch (random.nextInt(6)) {
            case 0 -> {
                int roll = place(3);
                int what = number(0, 4);
                both("roll", () -> x.roll(roll, what), () -> model.roll(roll, what));
            }
            case 1 -> {
                int note = place(1000);
                int row = place(6);
                int column = place(12);
                int what = number(0, 3);
                both("cell", () -> x.cell(note, row, column, what), () -> model.cell(note, row, column, what));
            }
            case 2 -> {
                int figure = place(4);
                int what = number(0, 4);
                both("figureOf", () -> x.figureOf(figure, what), () -> model.figureOf(figure, what));
            }
            case 3 -> {
                int figure = place(4);
                int note = place(1000);
                both("contrast", () -> x.contrast(figure, note), () -> model.contrast(figure, note));
            }
            case 4 -> {
                int what = number(0, 8);
                both("count", () -> x.count(what), () -> model.count(what));
            }
            default -> {
                int setting = place(3);
                both("setting", () -> x.setting(setting), () -> model.setting(setting));
            }
        }
    }

    private void wouldBe() {
        switch (random.nextInt(5)) {
            case 0 -> {
                int roll = place(3);
                int figure = place(4);
                both("bestPhase", () -> x.bestPhase(roll, figure), () -> model.bestPhase(roll, figure));
            }
            case 1 -> both("bestPitch", x::bestPitch, model::bestPitch);
            case 2 -> {
                int rows = number(1, 6);
                int columns = number(1, 12);
                int what = number(0, 2);
                both("standsOut", () -> x.standsOut(rows, columns, what), () -> model.standsOut(rows, columns, what));
            }
            case 3 -> both("goodness", x::goodness, model::goodness);
            default -> {
                if (random.nextInt(4) == 0) {
                    both("digest", x::digest, model::digest);
                }
            }
        }
    }

    private void run() {
        while (calls < MOST_CALLS - 1) {
            int which = random.nextInt(80);
            if (which < 25) {
                rolls();
            } else if (which < 45) {
                notes();
            } else if (which < 47) {
                texts();
            } else if (which < 52) {
                refuseUnless(model.hasSaved(), NO_STATE);
                both("undo", x::undo, model::undo);
            } else if (which < 70) {
                looks();
            } else {
                wouldBe();
            }
        }
        both("digest", x::digest, model::digest);
    }

    public static void main(String[] args) {
        for (int run = 0; run < RUNS && CHECK.wrong() < 20; run++) {
            new RandomRunTest(run).run();
        }
        CHECK.end();
    }
}
