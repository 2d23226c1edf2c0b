import java.util.Arrays;

/**
 * Runs of 512 calls with arguments in and out of their ranges: each call answers or throws what PlainBook does, which
 * is the document written once more, and at the end all that can be asked is the same.
 */
public final class RandomRunsTest {
    private static final int RUNS = 400;
    private static final int CALLS = 512;
    private static final int[] STRANGE = {-1, -2, 3, 4, 5, 6, 20, 21, 40, 41, 60, 61, 1000, 1001, 1500, 1501,
        Integer.MIN_VALUE, Integer.MAX_VALUE};
    private static final Check CHECK = new Check();

    private final GlacierBook book = new GlacierBook();
    private final PlainBook plain = new PlainBook();
    private final StringBuilder told = new StringBuilder();
    private final int run;
    private boolean isDifferent = false;
    private long seed;

    private RandomRunsTest(int run) {
        this.run = run;
        this.seed = run;
    }

    public static void main(String[] args) {
        for (int run = 1; run <= RUNS; run++) {
            new RandomRunsTest(run).go();
        }
        CHECK.end();
    }

    private int below(int bound) {
        seed = seed * 6364136223846793005L + 1442695040888963407L;
        return (int) ((seed >>> 33) % bound);
    }

    private int from0To(int most) {
        return below(30) == 0 ? STRANGE[below(STRANGE.length)] : below(most + 1);
    }

    /** Mostly a day near today, so that cuts, frost and age come to bear. */
    private int someDay() {
        int near = book.today() + below(60) - 20;
        return below(4) == 0 ? from0To(1000) : Math.max(0, Math.min(1000, near));
    }

    private int dayOrNone() {
        return below(3) == 0 ? GlacierBook.NONE : Math.min(1000, book.today() + below(60));
    }

    /** Small amounts in some runs, so that lots get empty and rations are cut. */
    private int someAmount() {
        return from0To(run % 3 == 0 ? 30 : 1000);
    }

    private int someEntry() {
        return from0To(book.entries());
    }

    private void go() {
        for (int call = 0; call < CALLS; call++) {
            someCall();
        }
        for (int entry = 0; entry < book.entries(); entry++) {
            same("changeOf", entry);
            same("lotOf", entry);
        }
        for (int lot = 0; lot < book.lots(); lot++) {
            same("amount", lot);
            same("about", lot);
        }
        for (int cell = 0; cell < 20; cell++) {
            same("stock", cell / 5, cell % 5);
            same("stockByJournal", cell / 5, cell % 5);
            same("changed", cell, cell % 6);
        }
    }

    private void someCall() {
        switch (below(24)) {
            case 0: same("setCut", from0To(3), someDay(), dayOrNone()); break;
            case 1: same("setWarm", from0To(3), below(2)); break;
            case 2: same("setFrost", someDay(), dayOrNone()); break;
            case 3: case 4: same("fill", from0To(3), from0To(4), someAmount(), someDay()); break;
            case 5: case 6: same("move", from0To(book.lots()), from0To(3), 1 + from0To(100)); break;
            case 7: case 8: case 9: same("count", from0To(book.lots()), someAmount()); break;
            case 10: same("setPeople", from0To(2), from0To(20)); break;
            case 11: case 12: same("pass", 1 + from0To(below(4) == 0 ? 60 : 4)); break;
            case 13: same("nextCrew"); break;
            case 14: same("changed", from0To(20), from0To(5)); break;
            case 15: same("lotOf", someEntry()); break;
            case 16: same("changeOf", someEntry()); break;
            case 17: same("about", from0To(book.lots())); break;
            case 18: same("amount", from0To(book.lots())); break;
            case 19: same("stock", from0To(3), from0To(4)); break;
            case 20: same("stockByJournal", from0To(3), from0To(4)); break;
            case 21: same("hunger", from0To(2)); break;
            case 22: same("enoughFor"); break;
            default: same("today"); same("lots"); same("entries"); break;
        }
    }

    /** Compares the answers to a call; the first one in a run that differs is told with all calls before it. */
    private void same(String name, int... arguments) {
        if (isDifferent) {
            return;
        }
        String due = plainAnswer(name, arguments);
        String got = bookAnswer(name, arguments);
        told.append(' ').append(name).append(Arrays.toString(arguments));
        isDifferent = !got.equals(due);
        CHECK.same(isDifferent ? "run " + run + ":" + told : name, got, due);
    }

    private String plainAnswer(String name, int[] arguments) {
        try {
            return Long.toString(plain.call(name, arguments));
        } catch (IndexOutOfBoundsException | IllegalArgumentException | IllegalStateException e) {
            return e.getClass().getSimpleName();
        }
    }

    private String bookAnswer(String name, int[] arguments) {
        long[] got = new long[1];
        Class<?> thrown = Check.thrownBy(() -> got[0] = bookCall(name, arguments));
        return thrown == null ? Long.toString(got[0]) : thrown.getSimpleName();
    }

    private long bookCall(String name, int[] a) {
        switch (name) {
            case "setCut": return book.setCut(a[0], a[1], a[2]) ? 1 : 0;
            case "setWarm": return book.setWarm(a[0], a[1] == 1) ? 1 : 0;
            case "setFrost": return book.setFrost(a[0], a[1]) ? 1 : 0;
            case "fill": return book.fill(a[0], a[1], a[2], a[3]);
            case "move": return book.move(a[0], a[1], a[2]);
            case "count": return book.count(a[0], a[1]);
            case "setPeople": return book.setPeople(a[0], a[1]);
            case "pass": return book.pass(a[0]);
            case "nextCrew": return book.nextCrew();
            case "today": return book.today();
            case "hunger": return book.hunger(a[0]);
            case "lots": return book.lots();
            case "amount": return book.amount(a[0]);
            case "about": return book.about(a[0]);
            case "stock": return book.stock(a[0], a[1]);
            case "stockByJournal": return book.stockByJournal(a[0], a[1]);
            case "enoughFor": return book.enoughFor();
            case "entries": return book.entries();
            case "changeOf": return book.changeOf(a[0]);
            case "lotOf": return book.lotOf(a[0]);
            case "changed": return book.changed(a[0], a[1]);
            default: throw new AssertionError(name);
        }
    }
}
