/** The names of the document's numbers, and objects to try calls on. */
abstract class Samples {
    static final Class<IndexOutOfBoundsException> INDEX = IndexOutOfBoundsException.class;
    static final Class<IllegalArgumentException> ARGUMENT = IllegalArgumentException.class;
    static final Class<IllegalStateException> STATE = IllegalStateException.class;
    static final int PLAIN = 0;
    static final int OWNED = 1;
    static final int SHARED = 2;
    static final int ALONE = 3;
    static final int WHOLE = -1;
    static final int BEHIND = 3;
    static final int NONE = -1;
    static final boolean IF = false;
    static final boolean GO = true;
    static final int UNMADE = 1;
    static final int MADE = 2;
    static final int GONE = 4;
    static final int[] FAR_OFF = {Integer.MIN_VALUE, -2147483647, -65536, 65536, Integer.MAX_VALUE};

    /** So many variables of the kinds 0 to 3, over and over; all are PARAMETERS, or none is. */
    static Ironwood ofKinds(int count, boolean areParameters) {
        Ironwood x = new Ironwood();
        for (int variable = 0; variable < count; variable++) {
            x.variable(variable % 4, areParameters);
        }
        return x;
    }

    /** The variables 0 to 3 of the kinds 0 to 3, 4 to 7 likewise, all MADE. */
    static Ironwood ofEachKind() {
        return ofKinds(8, true);
    }

    /** FAULTS of each code, ways round, and STATEMENTS to which one cannot come. */
    static Ironwood some() {
        Ironwood x = new Ironwood();
        tellVariables(x, 8);
        tellSome(x);
        return x;
    }

    /** As many variables, and as many STATEMENTS as there can be. */
    static Ironwood full() {
        Ironwood x = new Ironwood();
        tellVariables(x, 12);
        tellSome(x);
        x.setTarget(8, 16);
        while (x.statements() < 40) {
            tellMore(x);
        }
        return x;
    }

    /** One STATEMENT less than there can be. */
    static Ironwood nearlyFull() {
        Ironwood x = full();
        x.undo();
        return x;
    }

    private static void tellVariables(Ironwood x, int count) {
        for (int variable = 0; variable < count; variable++) {
            x.variable(variable % 4, variable < 4);
        }
    }

    private static void tellSome(Ironwood x) {
        x.lend(2, 1, WHOLE);
        x.lend(3, 0, WHOLE);
        x.read(0, WHOLE);
        x.write(1, 0);
        x.branch(IF, 9);
        x.move(5, 1, 1);
        x.read(5, WHOLE);
        x.read(1, WHOLE);
        x.branch(GO, 11);
        x.read(4, WHOLE);
        x.write(3, BEHIND);
        x.read(2, BEHIND);
        x.branch(IF, 4);
        x.finish(2);
        x.relend(6, 3);
        x.read(6, BEHIND);
    }

    private static void tellMore(Ironwood x) {
        int number = x.statements();
        switch (number % 8) {
            case 0 -> x.call(7, 3, 2, 3);
            case 1 -> x.lend(11, 9, number % 3);
            case 2 -> x.drop(9);
            case 3 -> x.relend(10, 11);
            case 4 -> x.write(8, WHOLE);
            case 5 -> x.branch(IF, number - 4);
            case 6 -> x.move(9, 5, number % 3);
            default -> x.branch(GO, number + 1);
        }
    }

    /** So many STATEMENTS that change nothing. */
    static Ironwood row(int count) {
        Ironwood x = ofEachKind();
        while (x.statements() < count) {
            x.read(0, WHOLE);
        }
        return x;
    }

    interface Telling {
        void tell(Ironwood x);
    }

    /** What the WHOLE can be, and then each FIELD, if these are told, too. */
    static void canBe(Ironwood x, int statement, int variable, int... due) {
        for (int place = -1; place < due.length - 1; place++) {
            Expect.same("canBe(" + statement + ", " + variable + ", " + place + ")",
                    x.canBe(statement, variable, place), due[place + 1]);
        }
    }
}
