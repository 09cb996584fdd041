import java.util.List;
import java.util.function.Consumer;
import java.util.function.Supplier;

/** Each "Throws" row: the last value that is allowed, the first one that is not, and what stays as it was. */
public final class RefusalsTest extends Samples {
    private static final Supplier<Ironwood> EMPTY = Ironwood::new;
    private static final Supplier<Ironwood> UNUSED = Samples::ofEachKind;
    private static final Supplier<Ironwood> SOME = Samples::some;
    private static final Supplier<Ironwood> NEARLY = Samples::nearlyFull;
    private static final Supplier<Ironwood> FULL = Samples::full;
    private static final Supplier<Ironwood> UNMADE_ONES = () -> twelve(false);
    private static final Supplier<Ironwood> MADE_ONES = () -> twelve(true);
    private static final Supplier<Ironwood> SOME_MORE = goingOn(SOME);
    private static final Supplier<Ironwood> FULL_MORE = goingOn(FULL);
    private static final int VARIABLES = 8;
    private static final int STATEMENTS = 16;

    private RefusalsTest() {
    }

    public static void main(String[] args) {
        variable();
        write();
        move();
        lend();
        relend();
        read();
        drop();
        call();
        branch();
        finish();
        setTarget();
        undo();
        asksOfStatements();
        canBe();
        holds();
        canHold();
        ofFault();
        faultsOf();
        callsThatRefuseNothing();
        Expect.end("RefusalsTest");
    }

    private static Ironwood twelve(boolean areParameters) {
        Ironwood x = ofKinds(12, areParameters);
        x.lend(2, 1, 0);
        x.move(5, 1, WHOLE);
        x.read(11, BEHIND);
        return x;
    }

    // ---- how a call is looked at

    /** The call throws just that, and the object then answers as if the call had not been made. */
    private static void refused(Supplier<Ironwood> maker, String call, Class<? extends RuntimeException> due,
            Consumer<Ironwood> run) {
        Expect.throwing(call, due, () -> run.accept(maker.get()));
        Supplier<Ironwood> behind = () -> behind(maker.get(), run);
        Answers.same("behind " + call, behind, maker);
        Answers.same("behind " + call + ", asked ahead of it, too", () -> behind(asked(maker.get()), run), maker);
        if (maker == SOME || maker == FULL) {
            Answers.same("going on behind " + call, goingOn(behind), maker == SOME ? SOME_MORE : FULL_MORE);
        }
    }

    private static void refused(String call, Class<? extends RuntimeException> due, Consumer<Ironwood> run) {
        refused(SOME, call, due, run);
    }

    /** What finds an exception has to find it on a full object, too, ahead of that it is full. */
    private static void refusedFirst(String call, Class<? extends RuntimeException> due, Consumer<Ironwood> run) {
        refused(SOME, call, due, run);
        refused(FULL, call, due, run);
    }

    private static Ironwood asked(Ironwood x) {
        x.digest();
        x.culprit();
        return x;
    }

    private static Ironwood behind(Ironwood x, Consumer<Ironwood> run) {
        try {
            run.accept(x);
        } catch (RuntimeException thrown) {
            return x;
        }
        return x;
    }

    private static Supplier<Ironwood> goingOn(Supplier<Ironwood> maker) {
        return () -> {
            Ironwood x = maker.get();
            for (int k = 0; k < 9; k++) {
                x.undo();
            }
            x.setTarget(4, 10);
            if (x.variables() < 12) {
                x.variable(OWNED, true);
            }
            x.call(3, 1, 3, 2);
            x.relend(2, 3);
            x.branch(IF, 5);
            x.write(8, WHOLE);
            x.drop(1);
            x.lend(7, 1, 2);
            x.move(5, 1, 0);
            x.branch(GO, 3);
            return x;
        };
    }

    /** The 40th STATEMENT has the number 39; there is none behind it. */
    private static void fillsUp(String call, Told told) {
        Ironwood x = nearlyFull();
        Expect.same(call + " as the 40th", told.by(x), 39);
        Expect.same("statements() behind it", x.statements(), 40);
        Expect.throwing(call + " as the 41st", STATE, () -> told.by(x));
        Expect.same("statements() behind that", x.statements(), 40);
        refused(FULL, call + " as the 41st", STATE, told::by);
    }

    private interface Told {
        int by(Ironwood x);
    }

    /** The call is allowed: it adds a STATEMENT of that code. */
    private static void adds(String call, int code, Told told) {
        Ironwood x = ofEachKind();
        x.finish(NONE);
        Expect.same(call, told.by(x), 1);
        Expect.same("statements() behind " + call, x.statements(), 2);
        Expect.same("codeOf() behind " + call, x.codeOf(1), code);
        Expect.same("undo() of " + call, x.undo(), 1);
    }

    private interface OfVariable {
        int by(Ironwood x, int variable);
    }

    /** Of 8 variables, 0 and 7 are such ones; -1 and 8 are none, and with a bad rest they come first. */
    private static void noSuchVariable(String call, OfVariable good, OfVariable bad) {
        for (int variable : new int[] {-1, -2, VARIABLES, VARIABLES + 1, 12, 40}) {
            int v = variable;
            refused(call + " of " + v, INDEX, x -> good.by(x, v));
            refused(call + " of " + v + " and a bad rest", INDEX, x -> bad.by(x, v));
        }
        for (int variable : FAR_OFF) {
            int v = variable;
            refused(call + " of " + v, INDEX, x -> good.by(x, v));
        }
        refused(FULL, call + " of -2, and there are 40", INDEX, x -> good.by(x, -2));
        refused(FULL, call + " of 12, and there are 40", INDEX, x -> good.by(x, 12));
        refused(FULL, call + " of 12 and a bad rest, and there are 40", INDEX, x -> bad.by(x, 12));
        refused(EMPTY, call + " of 0 without variables", INDEX, x -> good.by(x, 0));
    }

    // ---- what is told

    private static void variable() {
        Expect.holds("Promise 2: IllegalArgumentException if kind is not 0 to 3", () -> {
            for (int kind = 0; kind <= 3; kind++) {
                Expect.same("variable(" + kind + ", ..)", some().variable(kind, true), VARIABLES);
                Expect.same("variable(" + kind + ", ..)", some().variable(kind, false), VARIABLES);
            }
            for (int bad : new int[] {-1, 4, 5}) {
                refused("variable(" + bad + ", true)", ARGUMENT, x -> x.variable(bad, true));
                refused(EMPTY, "variable(" + bad + ", false)", ARGUMENT, x -> x.variable(bad, false));
            }
            for (int bad : FAR_OFF) {
                refused("variable(" + bad + ", false)", ARGUMENT, x -> x.variable(bad, false));
            }
        });
        Expect.holds("Promise 2: IllegalStateException if there are 12", () -> {
            Ironwood x = new Ironwood();
            for (int number = 0; number < 12; number++) {
                Expect.same("variable()", x.variable(number % 4, number % 2 == 0), number);
            }
            Expect.same("variables()", x.variables(), 12);
            for (int kind = 0; kind <= 3; kind++) {
                int k = kind;
                refused(FULL, "the 13th variable", STATE, y -> y.variable(k, true));
                refused(FULL, "the 13th variable", STATE, y -> y.variable(k, false));
                refused(UNMADE_ONES, "the 13th variable", STATE, y -> y.variable(k, true));
                refused(MADE_ONES, "the 13th variable", STATE, y -> y.variable(k, false));
            }
        });
        Expect.holds("Promise 2: if both apply, IllegalArgumentException is thrown", () -> {
            refused(FULL, "the 13th variable, of the kind -1", ARGUMENT, x -> x.variable(-1, true));
            refused(FULL, "the 13th variable, of the kind 4", ARGUMENT, x -> x.variable(4, false));
        });
    }

    private static void write() {
        Expect.holds("Promise 3: IndexOutOfBoundsException if there is no such variable",
                () -> noSuchVariable("write()", (x, v) -> x.write(v, WHOLE), (x, v) -> x.write(v, 4)));
        Expect.holds("Promise 3: IllegalArgumentException if the PLACE is none of these", () -> {
            int[][] fits = {{WHOLE}, {WHOLE, 0, 1, 2}, {}, {BEHIND}};
            places("write()", 0, fits, Ironwood::write);
        });
        Expect.holds("Promise 3: IllegalStateException if there are 40", () -> {
            fillsUp("write() of a WHOLE", x -> x.write(0, WHOLE));
            fillsUp("write() of a FIELD", x -> x.write(1, 2));
            fillsUp("write() of what is BEHIND", x -> x.write(3, BEHIND));
        });
    }

    private interface OfPlace {
        int by(Ironwood x, int variable, int place);
    }

    /** For each kind the PLACES that fit; the others are refused, also if there are 40. */
    private static void places(String call, int code, int[][] fits, OfPlace told) {
        for (int kind = 0; kind < 8; kind++) {
            int v = kind;
            for (int place = -3; place <= 5; place++) {
                int p = place;
                String name = call + " of " + v + ", " + p;
                if (isIn(fits[v % 4], p)) {
                    adds(name, code, x -> told.by(x, v, p));
                } else {
                    refusedFirst(name, ARGUMENT, x -> told.by(x, v, p));
                }
            }
            for (int place : FAR_OFF) {
                refused(call + " of " + v + ", " + place, ARGUMENT, x -> told.by(x, v, place));
            }
        }
    }

    private static boolean isIn(int[] numbers, int number) {
        for (int each : numbers) {
            if (each == number) {
                return true;
            }
        }
        return false;
    }

    private static void move() {
        Expect.holds("Promise 4: IndexOutOfBoundsException if there is no such variable", () -> {
            noSuchVariable("move() to 0", (x, v) -> x.move(0, v, WHOLE), (x, v) -> x.move(0, v, 4));
            noSuchVariable("move() from 0", (x, v) -> x.move(v, 0, WHOLE), (x, v) -> x.move(v, 0, 4));
            noSuchVariable("move() of both", (x, v) -> x.move(v, v, WHOLE), (x, v) -> x.move(v, v, 4));
        });
        Expect.holds("Promise 4: the WHOLE of another one of the same kind as v", () -> {
            for (int to = 0; to < 8; to++) {
                for (int from = 0; from < 8; from++) {
                    movesOf(to, from, WHOLE, to != from && to % 4 == from % 4);
                }
            }
        });
        Expect.holds("Promise 4: a FIELD of an OWNED one (of v itself, too), if v is OWNED", () -> {
            for (int place = 0; place <= 2; place++) {
                movesOf(1, 1, place, true);
                movesOf(1, 5, place, true);
                movesOf(5, 1, place, true);
                for (int other : new int[] {0, 2, 3, 4, 6, 7}) {
                    movesOf(1, other, place, false);
                    movesOf(other, 1, place, false);
                    movesOf(other, (other + 4) % 8, place, false);
                    movesOf(other, other, place, false);
                }
            }
        });
        Expect.holds("Promise 4: IllegalArgumentException if the PLACE is neither", () -> {
            for (int to = 0; to < 8; to++) {
                for (int place : new int[] {-3, -2, 3, 4}) {
                    movesOf(to, (to + 4) % 8, place, false);
                    movesOf(to, to, place, false);
                }
            }
            for (int place : FAR_OFF) {
                movesOf(1, 5, place, false);
            }
        });
        Expect.holds("Promise 4: IllegalStateException if there are 40", () -> {
            fillsUp("move() of a WHOLE", x -> x.move(0, 4, WHOLE));
            fillsUp("move() of a FIELD", x -> x.move(1, 1, 2));
        });
    }

    private static void movesOf(int to, int from, int place, boolean isFit) {
        String name = "move(" + to + ", " + from + ", " + place + ")";
        if (isFit) {
            adds(name, 1, x -> x.move(to, from, place));
        } else {
            refusedFirst(name, ARGUMENT, x -> x.move(to, from, place));
        }
    }

    private static void lend() {
        Expect.holds("Promise 5: IndexOutOfBoundsException if there is no such variable", () -> {
            noSuchVariable("lend() to 2", (x, v) -> x.lend(2, v, WHOLE), (x, v) -> x.lend(0, v, 4));
            noSuchVariable("lend() of 0", (x, v) -> x.lend(v, 0, WHOLE), (x, v) -> x.lend(v, 2, 4));
            noSuchVariable("lend() of both", (x, v) -> x.lend(v, v, WHOLE), (x, v) -> x.lend(v, v, 4));
        });
        Expect.holds("Promise 5: IllegalArgumentException if p is none of these", () -> {
            int[][] fits = {{WHOLE}, {WHOLE, 0, 1, 2}, {}, {}};
            places("lend() to a LOAN ALONE", 2, fits, (x, v, p) -> x.lend(3, v, p));
            places("lend() to a SHARED LOAN", 2, fits, (x, v, p) -> x.lend(6, v, p));
        });
        Expect.holds("Promise 5: IllegalArgumentException if v is no LOAN", () -> {
            for (int to : new int[] {0, 1, 4, 5}) {
                refusedFirst("lend() of 0 to " + to, ARGUMENT, x -> x.lend(to, 0, WHOLE));
                refusedFirst("lend() of 5 to " + to, ARGUMENT, x -> x.lend(to, 5, WHOLE));
                refusedFirst("lend() of a FIELD to " + to, ARGUMENT, x -> x.lend(to, 5, 0));
            }
        });
        Expect.holds("Promise 5: IllegalStateException if there are 40", () -> {
            fillsUp("lend() of a WHOLE", x -> x.lend(2, 0, WHOLE));
            fillsUp("lend() of a FIELD", x -> x.lend(3, 1, 0));
        });
    }

    private static void relend() {
        Expect.holds("Promise 6: IndexOutOfBoundsException if there is no such variable", () -> {
            noSuchVariable("relend() to 2", (x, v) -> x.relend(2, v), (x, v) -> x.relend(0, v));
            noSuchVariable("relend() of 3", (x, v) -> x.relend(v, 3), (x, v) -> x.relend(v, 0));
            noSuchVariable("relend() of both", (x, v) -> x.relend(v, v), (x, v) -> x.relend(v, v));
        });
        Expect.holds("Promise 6: IllegalArgumentException if v or w is none of these", () -> {
            for (int to = 0; to < 8; to++) {
                for (int from = 0; from < 8; from++) {
                    boolean areLoans = to % 4 >= SHARED && from % 4 >= SHARED;
                    relends(to, from, areLoans && to != from && (from % 4 == ALONE || to % 4 == SHARED));
                }
            }
        });
        Expect.holds("Promise 6: IllegalArgumentException if they are the same", () -> {
            relends(2, 2, false);
            relends(3, 3, false);
            relends(7, 7, false);
        });
        Expect.holds("Promise 6: w, one ALONE, if v is so", () -> {
            relends(3, 2, false);
            relends(7, 2, false);
            relends(3, 7, true);
            relends(2, 3, true);
            relends(2, 6, true);
        });
        Expect.holds("Promise 6: IllegalStateException if there are 40",
                () -> fillsUp("relend()", x -> x.relend(2, 3)));
    }

    private static void relends(int to, int from, boolean isFit) {
        String name = "relend(" + to + ", " + from + ")";
        if (isFit) {
            adds(name, 3, x -> x.relend(to, from));
        } else {
            refusedFirst(name, ARGUMENT, x -> x.relend(to, from));
        }
    }

    private static void read() {
        Expect.holds("Promise 7: IndexOutOfBoundsException if there is no such variable",
                () -> noSuchVariable("read()", (x, v) -> x.read(v, WHOLE), (x, v) -> x.read(v, 4)));
        Expect.holds("Promise 7: IllegalArgumentException if the PLACE is none of these", () -> {
            int[][] fits = {{WHOLE}, {WHOLE, 0, 1, 2}, {WHOLE, BEHIND}, {WHOLE, BEHIND}};
            places("read()", 4, fits, Ironwood::read);
        });
        Expect.holds("Promise 7: IllegalStateException if there are 40", () -> {
            fillsUp("read() of a WHOLE", x -> x.read(0, WHOLE));
            fillsUp("read() of a FIELD", x -> x.read(1, 2));
            fillsUp("read() of what is BEHIND", x -> x.read(2, BEHIND));
        });
    }

    private static void drop() {
        Expect.holds("Promise 8: IndexOutOfBoundsException if there is no such variable",
                () -> noSuchVariable("drop()", (x, v) -> x.drop(v), (x, v) -> x.drop(v)));
        Expect.holds("Promise 8: any variable, the first and the last one", () -> {
            for (int variable = 0; variable < VARIABLES; variable++) {
                int v = variable;
                adds("drop(" + v + ")", 5, x -> x.drop(v));
            }
        });
        Expect.holds("Promise 8: IllegalStateException if there are 40", () -> {
            fillsUp("drop() of the first one", x -> x.drop(0));
            fillsUp("drop() of the last one", x -> x.drop(11));
        });
    }

    private static void call() {
        Expect.holds("Promise 9: IndexOutOfBoundsException if there is no such variable v",
                () -> noSuchVariable("call() to it", (x, v) -> x.call(v, 0, 1, 0), (x, v) -> x.call(v, 1, 1, 4)));
        Expect.holds("Promise 9: IndexOutOfBoundsException if there is no such variable a",
                () -> noArgument("call() of it", (x, v) -> x.call(0, v, 1, 0), (x, v) -> x.call(0, v, v, 4)));
        Expect.holds("Promise 9: IndexOutOfBoundsException if there is no such variable b",
                () -> noArgument("call() with it", (x, v) -> x.call(0, 1, v, 0), (x, v) -> x.call(0, 1, v, -1)));
        Expect.holds("Promise 9: a and b, -1 for none", () -> {
            for (int ties = 0; ties <= 3; ties++) {
                int t = ties;
                adds("call() of none", 6, x -> x.call(0, NONE, NONE, t));
                adds("call() of one", 6, x -> x.call(0, 7, NONE, t));
                adds("call() of the other", 6, x -> x.call(0, NONE, 7, t));
            }
        });
        Expect.holds("Promise 9: IllegalArgumentException if ties is not 0 to 3", () -> {
            adds("call() with the ties 0", 6, x -> x.call(0, 1, 2, 0));
            adds("call() with the ties 3", 6, x -> x.call(0, 1, 2, 3));
            for (int ties : new int[] {-1, 4}) {
                refusedFirst("call() with the ties " + ties, ARGUMENT, x -> x.call(0, 1, 2, ties));
                refusedFirst("call() of none with the ties " + ties, ARGUMENT, x -> x.call(0, NONE, NONE, ties));
            }
            for (int ties : FAR_OFF) {
                refused("call() with the ties " + ties, ARGUMENT, x -> x.call(2, 2, 3, ties));
            }
        });
        Expect.holds("Promise 9: IllegalArgumentException if a and b are the same variable", () -> {
            for (int variable = 0; variable < VARIABLES; variable++) {
                int v = variable;
                refusedFirst("call() of " + v + " twice", ARGUMENT, x -> x.call(0, v, v, 0));
                adds("call() of " + v + " to itself", 6, x -> x.call(v, v, NONE, 3));
                adds("call() with " + v + " to itself", 6, x -> x.call(v, (v + 1) % VARIABLES, v, 3));
            }
        });
        Expect.holds("Promise 9: IllegalStateException if there are 40", () -> {
            fillsUp("call() of none", x -> x.call(0, NONE, NONE, 0));
            fillsUp("call() of two", x -> x.call(11, 10, 11, 3));
        });
    }

    /** As for a variable that has to be, but -1 is allowed. */
    private static void noArgument(String call, OfVariable good, OfVariable bad) {
        for (int variable : new int[] {-2, -3, VARIABLES, VARIABLES + 1, 12, 40}) {
            int v = variable;
            refused(call + " of " + v, INDEX, x -> good.by(x, v));
            refused(call + " of " + v + " and a bad rest", INDEX, x -> bad.by(x, v));
        }
        for (int variable : FAR_OFF) {
            int v = variable;
            refused(call + " of " + v, INDEX, x -> good.by(x, v));
        }
        refused(FULL, call + " of -2, and there are 40", INDEX, x -> good.by(x, -2));
        refused(FULL, call + " of 12, and there are 40", INDEX, x -> good.by(x, 12));
        refused(FULL, call + " of 12 and a bad rest, and there are 40", INDEX, x -> bad.by(x, 12));
        refused(EMPTY, call + " of 0 without variables", INDEX, x -> good.by(x, 0));
    }

    private static void branch() {
        Expect.holds("Promise 10: IllegalArgumentException if target is not 0 to 40", () -> {
            for (int target : new int[] {0, 1, 2, 3, 39, 40}) {
                adds("branch(IF, " + target + ")", 7, x -> x.branch(IF, target));
                adds("branch(GO, " + target + ")", 8, x -> x.branch(GO, target));
            }
            for (int target : new int[] {-2, -1, 41, 42}) {
                refusedFirst("branch(IF, " + target + ")", ARGUMENT, x -> x.branch(IF, target));
                refusedFirst("branch(GO, " + target + ")", ARGUMENT, x -> x.branch(GO, target));
                refused(EMPTY, "branch(IF, " + target + ")", ARGUMENT, x -> x.branch(IF, target));
            }
            for (int target : FAR_OFF) {
                refused("branch(IF, " + target + ")", ARGUMENT, x -> x.branch(IF, target));
                refused("branch(GO, " + target + ")", ARGUMENT, x -> x.branch(GO, target));
            }
        });
        Expect.holds("Promise 10: IllegalStateException if there are 40", () -> {
            fillsUp("branch(IF, 0)", x -> x.branch(IF, 0));
            fillsUp("branch(GO, 40)", x -> x.branch(GO, 40));
        });
    }

    private static void finish() {
        Expect.holds("Promise 11: IndexOutOfBoundsException if there is no such variable",
                () -> noArgument("finish()", (x, v) -> x.finish(v), (x, v) -> x.finish(v)));
        Expect.holds("Promise 11: v, -1 for none", () -> {
            for (int variable = -1; variable < VARIABLES; variable++) {
                int v = variable;
                adds("finish(" + v + ")", 9, x -> x.finish(v));
            }
            Expect.same("finish(-1) without variables", new Ironwood().finish(NONE), 0);
        });
        Expect.holds("Promise 11: IllegalStateException if there are 40", () -> {
            fillsUp("finish() of none", x -> x.finish(NONE));
            fillsUp("finish() of the last one", x -> x.finish(11));
        });
    }

    private static void setTarget() {
        Expect.holds("Promise 12: IndexOutOfBoundsException if there is no such STATEMENT", () -> {
            for (int statement : new int[] {-1, STATEMENTS, STATEMENTS + 1, 40}) {
                refused("setTarget(" + statement + ", 0)", INDEX, x -> x.setTarget(statement, 0));
                refused("setTarget(" + statement + ", 41)", INDEX, x -> x.setTarget(statement, 41));
                refused("setTarget(" + statement + ", -1)", INDEX, x -> x.setTarget(statement, -1));
            }
            for (int statement : FAR_OFF) {
                refused("setTarget(" + statement + ", 0)", INDEX, x -> x.setTarget(statement, 0));
            }
            refused(FULL, "setTarget(40, 0)", INDEX, x -> x.setTarget(40, 0));
            refused(EMPTY, "setTarget(0, 0)", INDEX, x -> x.setTarget(0, 0));
        });
        Expect.holds("Promise 12: IndexOutOfBoundsException for one that is taken away", () -> {
            Ironwood x = some();
            x.branch(IF, 0);
            Expect.same("setTarget() of the last one", x.setTarget(STATEMENTS, 40), 0);
            x.undo();
            Expect.throwing("setTarget() of it when it is gone", INDEX, () -> x.setTarget(STATEMENTS, 0));
        });
        Expect.holds("Promise 12: IllegalArgumentException if it is neither IF nor GO", () -> {
            for (int statement = 0; statement < STATEMENTS; statement++) {
                int s = statement;
                int code = some().codeOf(s);
                if (code != 7 && code != 8) {
                    refused("setTarget(" + s + ", 0)", ARGUMENT, x -> x.setTarget(s, 0));
                    refused("setTarget(" + s + ", 41)", ARGUMENT, x -> x.setTarget(s, 41));
                }
            }
            refused(FULL, "setTarget() of a CALL", ARGUMENT, x -> x.setTarget(16, 0));
            refused(FULL, "setTarget() of a DROP", ARGUMENT, x -> x.setTarget(18, 40));
        });
        Expect.holds("Promise 12: IllegalArgumentException if target is not 0 to 40", () -> {
            for (int statement : new int[] {4, 8}) {
                for (int target : new int[] {-2, -1, 41, 42}) {
                    refusedFirst("setTarget(.., " + target + ")", ARGUMENT, x -> x.setTarget(statement, target));
                }
                for (int target : FAR_OFF) {
                    refused("setTarget(.., " + target + ")", ARGUMENT, x -> x.setTarget(statement, target));
                }
                Ironwood x = some();
                x.setTarget(statement, 0);
                Expect.same("setTarget(.., 40)", x.setTarget(statement, 40), 0);
                Expect.same("setTarget(.., 0)", x.setTarget(statement, 0), 40);
                Expect.same("setTarget(.., 39)", x.setTarget(statement, 39), 0);
            }
        });
    }

    private static void undo() {
        Expect.holds("Promise 13: IllegalStateException if there is none", () -> {
            refused(EMPTY, "undo() of a new one", STATE, Ironwood::undo);
            refused(UNUSED, "undo() of one that has variables alone", STATE, Ironwood::undo);
            Ironwood x = full();
            for (int left = 39; left >= 0; left--) {
                Expect.same("undo()", x.undo(), left);
            }
            Expect.throwing("undo() of what is taken away", STATE, x::undo);
            Expect.same("statements() behind it", x.statements(), 0);
            Expect.same("a STATEMENT behind it", x.finish(NONE), 0);
            Expect.same("undo() of that", x.undo(), 0);
            Expect.throwing("undo() once more", STATE, x::undo);
        });
    }

    // ---- what is asked

    private interface OfStatement {
        Object by(Ironwood x, int statement);
    }

    private static void asksOfStatements() {
        noSuchStatement(16, "codeOf()", Ironwood::codeOf);
        noSuchStatement(17, "isReached()", Ironwood::isReached);
        noSuchStatement(18, "canBe()", (x, s) -> x.canBe(s, 0, WHOLE));
        noSuchStatement(19, "holds()", (x, s) -> x.holds(s, 0));
        noSuchStatement(20, "canHold()", (x, s) -> x.canHold(s, 2, 0));
        noSuchStatement(21, "awaited()", Ironwood::awaited);
        noSuchStatement(23, "isLive()", (x, s) -> x.isLive(0, s));
        noSuchStatement(27, "faultsAt()", Ironwood::faultsAt);
        noSuchStatement(29, "without()", Ironwood::without);
        noSuchStatement(30, "copied()", Ironwood::copied);
    }

    private static void noSuchStatement(int promise, String call, OfStatement asked) {
        Expect.holds("Promise " + promise + ": IndexOutOfBoundsException if there is no such STATEMENT", () -> {
            for (int statement : new int[] {-1, STATEMENTS, STATEMENTS + 1, 39, 40, 41, 63, 64}) {
                refused(call + " of " + statement, INDEX, x -> asked.by(x, statement));
            }
            for (int statement : FAR_OFF) {
                refused(call + " of " + statement, INDEX, x -> asked.by(x, statement));
            }
            refused(FULL, call + " of 40", INDEX, x -> asked.by(x, 40));
            refused(FULL, call + " of -1", INDEX, x -> asked.by(x, -1));
            refused(EMPTY, call + " of 0", INDEX, x -> asked.by(x, 0));
            refused(UNUSED, call + " of 0", INDEX, x -> asked.by(x, 0));
            answers(SOME, call + " of 0", x -> asked.by(x, 0));
            answers(SOME, call + " of the last one", x -> asked.by(x, STATEMENTS - 1));
            answers(FULL, call + " of 39", x -> asked.by(x, 39));
            refused(NEARLY, call + " of one that is taken away", INDEX, x -> asked.by(x, 39));
        });
    }

    /** The call throws nothing, and changes nothing. */
    private static void answers(Supplier<Ironwood> maker, String call, Consumer<Ironwood> run) {
        Expect.throwing(call, null, () -> run.accept(maker.get()));
        Answers.same("behind " + call, () -> behind(maker.get(), run), maker);
    }

    private interface OfBoth {
        Object by(Ironwood x, int statement, int variable);
    }

    private static void noSuchVariableThere(String call, OfBoth asked) {
        for (int variable : new int[] {-2, -1, VARIABLES, VARIABLES + 1, 11, 12}) {
            refused(call + " of " + variable, INDEX, x -> asked.by(x, 0, variable));
            refused(call + " of " + variable + ", where one cannot come", INDEX, x -> asked.by(x, 14, variable));
            refused(call + " of " + variable + ", and no STATEMENT", INDEX, x -> asked.by(x, STATEMENTS, variable));
        }
        for (int variable : FAR_OFF) {
            refused(call + " of " + variable, INDEX, x -> asked.by(x, 0, variable));
        }
        refused(FULL, call + " of 12", INDEX, x -> asked.by(x, 39, 12));
        answers(SOME, call + " of the first one", x -> asked.by(x, 0, 0));
        answers(SOME, call + " of the last one", x -> asked.by(x, 0, VARIABLES - 1));
        answers(FULL, call + " of 11", x -> asked.by(x, 39, 11));
        Ironwood bare = new Ironwood();
        bare.finish(NONE);
        Expect.throwing(call + " of 0 without variables", INDEX, () -> asked.by(bare, 0, 0));
    }

    private static void canBe() {
        Expect.holds("Promise 18: IndexOutOfBoundsException if there is no such variable", () -> {
            noSuchVariableThere("canBe()", (x, s, v) -> x.canBe(s, v, WHOLE));
            refused("canBe() of no variable and no PLACE", INDEX, x -> x.canBe(0, VARIABLES, 4));
            refused("canBe() of no STATEMENT and no PLACE", INDEX, x -> x.canBe(STATEMENTS, 0, 4));
            refused("canBe() of none of the three", INDEX, x -> x.canBe(-1, -1, -2));
        });
        Expect.holds("Promise 18: IllegalArgumentException if place is no such one", () -> {
            for (int variable = 0; variable < VARIABLES; variable++) {
                int v = variable;
                for (int place = -3; place <= 4; place++) {
                    int p = place;
                    String call = "canBe(0, " + v + ", " + p + ")";
                    if (p == WHOLE || v % 4 == OWNED && p >= 0 && p <= 2) {
                        answers(SOME, call, x -> x.canBe(0, v, p));
                        answers(SOME, call + ", where one cannot come", x -> x.canBe(14, v, p));
                    } else {
                        refused(call, ARGUMENT, x -> x.canBe(0, v, p));
                        refused(call + ", where one cannot come", ARGUMENT, x -> x.canBe(14, v, p));
                    }
                }
                for (int place : FAR_OFF) {
                    refused("canBe(0, " + v + ", " + place + ")", ARGUMENT, x -> x.canBe(0, v, place));
                }
            }
        });
    }

    private static void holds() {
        Expect.holds("Promise 19: IndexOutOfBoundsException if there is no such variable",
                () -> noSuchVariableThere("holds()", Ironwood::holds));
    }

    private static void canHold() {
        Expect.holds("Promise 20: IndexOutOfBoundsException if there is no such variable", () -> {
            noSuchVariableThere("canHold()", (x, s, v) -> x.canHold(s, v, 0));
            noSuchVariableThere("canHold() of no LOAN", (x, s, v) -> x.canHold(s, v, -1));
        });
    }

    private static void ofFault() {
        int faults = some().faults();
        Expect.holds("Promise 26: IndexOutOfBoundsException if there is no such FAULT", () -> {
            for (int fault : new int[] {-2, -1, faults, faults + 1, 280, 281}) {
                refused("ofFault(" + fault + ", 0)", INDEX, x -> x.ofFault(fault, 0));
                refused("ofFault(" + fault + ", 6)", INDEX, x -> x.ofFault(fault, 6));
            }
            for (int fault : FAR_OFF) {
                refused("ofFault(" + fault + ", 0)", INDEX, x -> x.ofFault(fault, 0));
            }
            refused(EMPTY, "ofFault(0, 0)", INDEX, x -> x.ofFault(0, 0));
            refused(UNUSED, "ofFault(0, 0)", INDEX, x -> x.ofFault(0, 0));
            answers(SOME, "ofFault() of the first one", x -> x.ofFault(0, 0));
            answers(SOME, "ofFault() of the last one", x -> x.ofFault(faults - 1, 0));
        });
        Expect.holds("Promise 26: IllegalArgumentException if what is not 0 to 6", () -> {
            for (int what : new int[] {-2, -1, 7, 8}) {
                refused("ofFault(0, " + what + ")", ARGUMENT, x -> x.ofFault(0, what));
                refused("ofFault() of the last, " + what, ARGUMENT, x -> x.ofFault(faults - 1, what));
            }
            for (int what : FAR_OFF) {
                refused("ofFault(0, " + what + ")", ARGUMENT, x -> x.ofFault(0, what));
            }
            for (int what = 0; what <= 6; what++) {
                int w = what;
                answers(SOME, "ofFault(0, " + w + ")", x -> x.ofFault(0, w));
            }
        });
        Expect.holds("Promise 26: if both apply, IndexOutOfBoundsException is thrown", () -> {
            refused("ofFault(-1, -1)", INDEX, x -> x.ofFault(-1, -1));
            refused("ofFault() of the one behind the last, 7", INDEX, x -> x.ofFault(faults, 7));
            refused(EMPTY, "ofFault(0, 7)", INDEX, x -> x.ofFault(0, 7));
        });
    }

    private static void faultsOf() {
        Expect.holds("Promise 28: IllegalArgumentException if it is not 1 to 6", () -> {
            for (int code : new int[] {-1, 0, 7, 8}) {
                refused("faultsOf(" + code + ")", ARGUMENT, x -> x.faultsOf(code));
                refused(EMPTY, "faultsOf(" + code + ")", ARGUMENT, x -> x.faultsOf(code));
            }
            for (int code : FAR_OFF) {
                refused("faultsOf(" + code + ")", ARGUMENT, x -> x.faultsOf(code));
            }
            for (int code = 1; code <= 6; code++) {
                int c = code;
                answers(SOME, "faultsOf(" + c + ")", x -> x.faultsOf(c));
                Expect.same("faultsOf(" + c + ") of a new one", new Ironwood().faultsOf(c), 0);
            }
        });
    }

    /** These have no "Throws" row: they answer for any number, on any object. */
    private static void callsThatRefuseNothing() {
        Expect.holds("Promises 1, 14, 15, 22, 24, 25, 31 to 33: nothing is thrown", () -> {
            for (Supplier<Ironwood> maker : List.of(EMPTY, UNUSED, SOME, NEARLY, FULL)) {
                answers(maker, "variables()", Ironwood::variables);
                answers(maker, "statements()", Ironwood::statements);
                answers(maker, "loans()", Ironwood::loans);
                answers(maker, "faults()", Ironwood::faults);
                answers(maker, "culprit()", Ironwood::culprit);
                answers(maker, "density()", Ironwood::density);
                answers(maker, "digest()", Ironwood::digest);
                for (int loan : new int[] {Integer.MIN_VALUE, -1, 0, 39, 40, 64, Integer.MAX_VALUE}) {
                    answers(maker, "region(" + loan + ")", x -> x.region(loan));
                }
            }
            for (int loan : new int[] {Integer.MIN_VALUE, -1, 39, 40, 64, Integer.MAX_VALUE}) {
                answers(SOME, "canHold(0, 2, " + loan + ")", x -> x.canHold(0, 2, loan));
                answers(SOME, "isLive(" + loan + ", 0)", x -> x.isLive(loan, 0));
            }
        });
    }
}
