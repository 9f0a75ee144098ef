import java.util.function.Supplier;

/** Promises 1 to 14 together: runs of many calls beside the model, each answer, and each output where it may change. */
public final class RunsTest {
    private static final int RUNS = 1500;
    private static final int CALLS = 512;
    /** As many calls as the longest step can need: feeding a whole input, or one call and a look at 80 bytes. */
    private static final int STEP = 90;
    private static final int NONE = -1;
    private static final int ALTER = 7;
    private static final int SEAL = 13;
    private static final int OPEN = 18;
    private static final int TAKE = 21;
    private static final Check check = new Check();
    private static int opened = 0;
    private static int refused = 0;

    private final Numbers numbers;
    private final SealingDesk desk = new SealingDesk();
    private final Model model = new Model();
    private int calls = 0;
    /** What comes next, so that what was sealed is often taken and opened: a kind of call, or NONE. */
    private int planned = NONE;
    private int plannedWay = 0;

    private RunsTest(int run) {
        numbers = new Numbers(run);
    }

    public static void main(String[] args) {
        for (int run = 0; run < RUNS; run++) {
            new RunsTest(run).play(run);
        }
        check.same("many were opened and many refused", opened > RUNS && refused > RUNS ? 1 : 0, 1);
        check.end();
    }

    private void play(int run) {
        while (calls + STEP <= CALLS) {
            int kind = planned == NONE ? numbers.below(24) : planned;
            int way = numbers.below(40) == 0 ? numbers.below(5) - 1 : planned == OPEN ? plannedWay : numbers.below(3);
            String[] answers = oneCall(kind, way);
            plan(kind, way);
            String what = "run " + run + ", call " + calls + ", " + answers[0];
            if (!answers[1].equals(answers[2])) {
                check.fail(what + ": got " + answers[1] + ", due is " + answers[2]);
                return;
            }
            look(what, kind);
            count(answers);
        }
    }

    private void look(String what, int kind) {
        if (kind >= 11 && kind <= 20) {
            check.outputIs(what, desk, model.output);
            calls += 1 + model.output.length;
        } else {
            check.same(what + ", size", desk.size(), model.output.length);
            calls++;
        }
    }

    private static void count(String[] answers) {
        if (answers[0].startsWith("open")) {
            refused += answers[2].equals("-1") ? 1 : 0;
            opened += Character.isDigit(answers[2].charAt(0)) ? 1 : 0;
        }
    }

    private void plan(int kind, int way) {
        if (kind >= SEAL && kind < OPEN && numbers.below(4) > 0) {
            planned = TAKE;
            plannedWay = way;
        } else if (planned == TAKE) {
            planned = numbers.below(4) == 0 ? ALTER : OPEN;
        } else {
            planned = planned == ALTER ? OPEN : NONE;
        }
    }

    private String[] oneCall(int kind, int way) {
        boolean flag = numbers.below(2) == 0;
        return switch (kind) {
            case 0 -> key(numbers.below(12) == 0 ? numbers.below(5) - 2 : numbers.below(2));
            case 1, 2 -> feedMany(numbers.below(64) / (1 + numbers.below(3)));
            case 3, 4, 5 -> feed(numbers.next(), numbers.below(20) == 0 ? numbers.below(9) - 2 : 1 + numbers.below(4));
            case 6 -> told("drop", desk::drop, model.drop());
            case 7 -> alter(numbers.below(20) - 1, numbers.below(260) - 2);
            case 8, 9 -> answered("item", desk::item, model.item());
            case 10 -> numbers.below(2) == 0
                    ? answered("forget", desk::forget, model.forget())
                    : feedMany(16);
            case 11 -> told("cipher " + flag, () -> desk.cipher(flag), model.cipher(flag));
            case 12 -> told("mark " + flag, () -> desk.mark(flag), model.mark(flag));
            case 13, 14, 15, 16, 17 -> answered("seal " + way, () -> desk.seal(way), model.seal(way));
            case 18, 19, 20 -> answered("open " + way, () -> desk.open(way), model.open(way));
            default -> answered("take", desk::take, model.take());
        };
    }

    private String[] key(int which) {
        byte[] key = numbers.row(16);
        return told("key " + which, () -> Check.setKey(desk, which, key), model.key(which, key));
    }

    private String[] feed(int word, int n) {
        return answered("feed " + word + " " + n, () -> desk.feed(word, n), model.feed(word, n));
    }

    private String[] feedMany(int bytes) {
        model.drop();
        desk.drop();
        calls++;
        String[] last = {"feed of none", "", ""};
        for (int k = 0; k < bytes; k += 4) {
            last = feed(numbers.next(), Math.min(4, bytes - k));
        }
        return last;
    }

    private String[] alter(int k, int b) {
        return told("alter " + k + " " + b, () -> desk.alter(k, b), model.alter(k, b));
    }

    private String[] told(String what, Runnable call, String due) {
        return answered(what, () -> {
            call.run();
            return "done";
        }, due);
    }

    private String[] answered(String what, Supplier<Object> call, String due) {
        String got;
        calls++;
        try {
            got = String.valueOf(call.get());
        } catch (RuntimeException e) {
            got = e.getClass().getSimpleName();
        }
        return new String[] {what, got, due};
    }
}
