/**
 * Runs of 512 calls with arguments in and out of their ranges: no call throws what its clause does not name,
 * a call that throws changes nothing, and the book's sums agree with one another.
 */
public final class RandomRunsTest {
    private static final int RUNS = 300;
    private static final int CALLS = 512;
    private static final int[] STRANGE = {-1, -2, 41, 61, 1001, 1501, Integer.MIN_VALUE, Integer.MAX_VALUE};
    private static final Check CHECK = new Check();

    private final GlacierBook book = new GlacierBook();
    private final int[] people = new int[3];
    private long seed;

    private RandomRunsTest(long seed) {
        this.seed = seed;
    }

    public static void main(String[] args) {
        for (int run = 1; run <= RUNS; run++) {
            new RandomRunsTest(run).go();
        }
        CHECK.end();
    }

    private int below(int bound) {
        seed = seed * 6364136223846793005L + 1442695040888963407L;
        return (int) ((seed >>> 33) % bound);
    }

    private int upTo(int most) {
        return below(25) == 0 ? STRANGE[below(STRANGE.length)] : below(most + 1);
    }

    /** Mostly a day of the next hundred ones, so that cuts, frost and age come to bear. */
    private int someDay() {
        return below(4) == 0 ? upTo(1000) : Math.min(1000, book.today() + below(100) - 20);
    }

    private void go() {
        for (int call = 0; call < CALLS; call++) {
            String before = Seen.of(book);
            Class<?> thrown = Check.thrownBy(this::someCall);
            boolean isNamed = thrown == null || thrown == Check.INDEX || thrown == Check.ARGUMENT
                    || thrown == Check.STATE;
            CHECK.same("throws what the document names, " + thrown, isNamed, true);
            if (thrown != null) {
                CHECK.same("a call that throws changes nothing", Seen.of(book), before);
            }
        }
        sumsAgree();
    }

    private void someCall() {
        switch (below(16)) {
            case 0: book.setCut(upTo(3), someDay(), below(3) == 0 ? GlacierBook.NONE : someDay()); break;
            case 1: book.setWarm(upTo(3), below(2) == 0); break;
            case 2: book.setFrost(someDay(), below(3) == 0 ? GlacierBook.NONE : someDay()); break;
            case 3: case 4: book.fill(upTo(3), upTo(4), upTo(1000), someDay()); break;
            case 5: book.move(upTo(39), upTo(3), upTo(100)); break;
            case 6: case 7: case 8: book.count(upTo(39), upTo(1000)); break;
            case 9: setPeople(upTo(2), upTo(20)); break;
            case 10: case 11: pass(1 + upTo(below(4) == 0 ? 60 : 5)); break;
            case 12: if (below(5) == 0) { book.nextCrew(); } break;
            case 13: book.changed(upTo(20), upTo(5)); break;
            case 14: book.lotOf(upTo(2000)); book.changeOf(upTo(2000)); break;
            default: book.about(upTo(39)); book.hunger(upTo(2)); book.stock(upTo(3), upTo(4)); break;
        }
    }

    private void setPeople(int work, int count) {
        int before = book.setPeople(work, count);
        CHECK.same("people before", before, people[work]);
        people[work] = count;
    }

    private int hungerOfAll() {
        return book.hunger(0) + book.hunger(1) + book.hunger(2);
    }

    private void pass(int days) {
        int hunger = hungerOfAll();
        int need = 2 * people[0] + 3 * people[1] + 4 * people[2];
        int eaten = book.pass(days);
        CHECK.same("what is needed is eaten or missed", eaten + hungerOfAll() - hunger, (long) need * days);
    }

    private void sumsAgree() {
        int[] amounts = new int[book.lots()];
        int[] causes = new int[6];
        for (int entry = 0; entry < book.entries(); entry++) {
            amounts[book.lotOf(entry) / 10] += book.changeOf(entry);
            causes[book.lotOf(entry) % 10] += book.changeOf(entry);
        }
        for (int lot = 0; lot < amounts.length; lot++) {
            CHECK.same("amount from the journal", amounts[lot], book.amount(lot));
        }
        for (int cause = 0; cause < causes.length; cause++) {
            int sum = 0;
            for (int crew = 0; crew < 20; crew++) {
                sum += book.changed(crew, cause);
            }
            CHECK.same("changes of all crews", sum, causes[cause]);
        }
        for (int depot = 0; depot < 4; depot++) {
            for (int good = 0; good < 5; good++) {
                CHECK.same("stock from the journal", book.stockByJournal(depot, good), book.stock(depot, good));
            }
        }
    }
}
