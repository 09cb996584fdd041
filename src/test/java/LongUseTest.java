import java.util.function.Supplier;

/** "An object is used for at most 512 calls after it has been made": each of them is answered, the last one, too. */
public final class LongUseTest extends Samples {
    private static final int MOST_CALLS = 512;
    /** The calls by which some() and full() are made. */
    private static final int OF_SOME = 8 + 16;
    private static final int OF_FULL = 12 + 16 + 1 + 24 * 3 + 1;

    private LongUseTest() {
    }

    public static void main(String[] args) {
        Expect.holds("at most 512 calls: that ask", LongUseTest::asking);
        Expect.holds("at most 512 calls: that ask what would be", LongUseTest::supposing);
        Expect.holds("at most 512 calls: that tell, and take away", LongUseTest::telling);
        Expect.holds("at most 512 calls: that tell, and ask after each", LongUseTest::tellingAndAsking);
        Expect.holds("at most 512 calls: that are refused", LongUseTest::refusing);
        Expect.holds("at most 512 calls: of setTarget()", LongUseTest::settingTargets);
        Expect.holds("many objects beside each other", LongUseTest::besideEachOther);
        Expect.end("LongUseTest");
    }

    private interface Asked {
        Object by(Ironwood x);
    }

    /** The call is made until the 512th one, and always answers as at first. */
    private static void always(String call, Asked asked) {
        alwaysOf(call + " of some", Samples::some, OF_SOME, asked);
        alwaysOf(call + " of a full one", Samples::full, OF_FULL, asked);
    }

    private static void alwaysOf(String call, Supplier<Ironwood> maker, int made, Asked asked) {
        String due = asked.by(maker.get()).toString();
        Ironwood x = maker.get();
        for (int used = made; used < MOST_CALLS; used++) {
            Expect.same(call + ", call " + (used + 1), asked.by(x).toString(), due);
        }
    }

    private static void asking() {
        always("variables()", Ironwood::variables);
        always("statements()", Ironwood::statements);
        always("codeOf()", x -> x.codeOf(13));
        always("isReached()", x -> x.isReached(13));
        always("canBe()", x -> x.canBe(5, 1, 1));
        always("holds()", x -> x.holds(7, 2));
        always("canHold()", x -> x.canHold(7, 2, 0));
        always("awaited()", x -> x.awaited(7));
        always("loans()", Ironwood::loans);
        always("isLive()", x -> x.isLive(0, 7));
        always("region()", x -> x.region(0));
        always("faults()", Ironwood::faults);
        always("ofFault()", x -> x.ofFault(3, 4));
        always("ofFault() of the NEXT", x -> x.ofFault(0, 6));
        always("faultsAt()", x -> x.faultsAt(5));
        always("faultsOf()", x -> x.faultsOf(2));
        always("density()", Ironwood::density);
        always("digest()", Ironwood::digest);
    }

    private static void supposing() {
        always("without()", x -> x.without(0));
        always("copied()", x -> x.copied(5));
        always("culprit()", Ironwood::culprit);
    }

    /** Each STATEMENT is told with the number 16 or 39, and taken away, until the 512th call. */
    private static void telling() {
        toldAndTaken(some(), OF_SOME, 16);
        toldAndTaken(nearlyFull(), OF_FULL + 1, 39);
        Ironwood x = ofEachKind();
        for (int used = 8; used < MOST_CALLS; used++) {
            boolean isTelling = (used - 8) % 80 < 40;
            int number = (used - 8) % 40;
            int due = isTelling ? number : 39 - number;
            Expect.same("call " + (used + 1), isTelling ? x.read(0, WHOLE) : x.undo(), due);
        }
    }

    private static void toldAndTaken(Ironwood x, int made, int number) {
        for (int used = made; used < MOST_CALLS; used++) {
            boolean isTelling = (used - made) % 2 == 0;
            Expect.same("call " + (used + 1), isTelling ? tellOne(x, (used - made) / 2 % 10) : x.undo(), number);
        }
    }

    private static int tellOne(Ironwood x, int code) {
        return switch (code) {
            case 0 -> x.write(1, 2);
            case 1 -> x.move(1, 5, WHOLE);
            case 2 -> x.lend(3, 1, 0);
            case 3 -> x.relend(2, 3);
            case 4 -> x.read(7, BEHIND);
            case 5 -> x.drop(5);
            case 6 -> x.call(3, 3, 7, 3);
            case 7 -> x.branch(IF, 0);
            case 8 -> x.branch(GO, 40);
            default -> x.finish(3);
        };
    }

    private static void tellingAndAsking() {
        Ironwood x = some();
        long before = some().digest();
        long[] dues = new long[10];
        for (int code = 0; code < 10; code++) {
            Ironwood twin = some();
            tellOne(twin, code);
            dues[code] = twin.digest();
        }
        int used = OF_SOME;
        for (int k = 0; used + 4 <= MOST_CALLS; k++) {
            Expect.same("the number of a STATEMENT", tellOne(x, k % 10), 16);
            Expect.same("digest() with it, call " + (used + 2), x.digest(), dues[k % 10]);
            Expect.same("undo()", x.undo(), 16);
            Expect.same("digest() without it, call " + (used + 4), x.digest(), before);
            used += 4;
        }
    }

    private static void refusing() {
        Ironwood x = full();
        long due = full().digest();
        Expect.same("digest() ahead of them", x.digest(), due);
        for (int used = OF_FULL + 1; used < MOST_CALLS - 1; used++) {
            int number = used % 11;
            Class<? extends RuntimeException> thrown = number == 10 ? ARGUMENT : STATE;
            Expect.throwing("call " + (used + 1), thrown, () -> refuse(x, number));
        }
        Expect.same("digest() as the last call", x.digest(), due);
        Ironwood empty = new Ironwood();
        for (int used = 0; used < MOST_CALLS - 1; used++) {
            Expect.throwing("undo(), call " + (used + 1), STATE, empty::undo);
        }
        Expect.same("finish() as the last call", empty.finish(NONE), 0);
    }

    private static void refuse(Ironwood x, int number) {
        switch (number) {
            case 9 -> x.variable(PLAIN, true);
            case 10 -> x.setTarget(0, 0);
            default -> tellOne(x, number);
        }
    }

    private static void settingTargets() {
        Ironwood x = new Ironwood();
        x.branch(IF, 40);
        int before = 40;
        for (int used = 1; used < MOST_CALLS; used++) {
            Expect.same("setTarget(), call " + (used + 1), x.setTarget(0, used % 41), before);
            before = used % 41;
        }
        Ironwood y = new Ironwood();
        y.branch(GO, 2);
        y.finish(NONE);
        y.finish(NONE);
        for (int used = 3; used + 2 <= MOST_CALLS; used += 2) {
            int target = 1 + used / 2 % 2;
            y.setTarget(0, target);
            Expect.yes("isReached(), call " + (used + 2), y.isReached(target));
        }
    }

    private static void besideEachOther() {
        Ironwood[] all = new Ironwood[40];
        for (int k = 0; k < all.length; k++) {
            all[k] = k % 2 == 0 ? some() : full();
        }
        long ofSome = some().digest();
        long ofFull = full().digest();
        for (int round = 0; round < 3; round++) {
            for (int k = 0; k < all.length; k++) {
                Expect.same("digest() of one of many", all[k].digest(), k % 2 == 0 ? ofSome : ofFull);
            }
        }
        for (int k = 0; k < all.length; k += 2) {
            all[k].undo();
        }
        for (int k = 1; k < all.length; k += 2) {
            Expect.same("digest() of one beside those that changed", all[k].digest(), ofFull);
        }
    }
}
