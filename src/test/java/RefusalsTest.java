/**
 * The sentences that name a state in which a call is refused, each on both sides of its edge; which exception comes if
 * several apply; and that a refused call changes nothing, seen or not.
 */
public final class RefusalsTest {
    private static final int NONE = GlacierBook.NONE;
    private static final Check CHECK = new Check();

    /** What is done with a book: to bring it into a state, or the call that is asked about. */
    private interface Step {
        void on(GlacierBook book);
    }

    public static void main(String[] args) {
        promise5FortyLots();
        promise6FortyLots();
        promise6SourceCutOff();
        promise6GoalCutOff();
        promise6LotHasLess();
        promise7CutOff();
        promise9LastDay();
        promise10TwentyCrews();
        indexBeforeArgument();
        indexBeforeState();
        argumentBeforeState();
        CHECK.end();
    }

    private static GlacierBook brought(Step state) {
        GlacierBook book = new GlacierBook();
        state.on(book);
        return book;
    }

    private static void taken(String sentence, Step state, Step call) {
        GlacierBook book = brought(state);
        Class<?> thrown = Check.thrownBy(() -> call.on(book));
        CHECK.same(sentence + ": not refused by " + thrown, thrown == null, true);
    }

    private static void refused(String sentence, Class<? extends RuntimeException> due, Step state, Step call) {
        GlacierBook book = brought(state);
        CHECK.refused(book, sentence, due, () -> call.on(book));
        CHECK.same(sentence + " changes nothing that is not seen", Later.of(book), Later.of(brought(state)));
    }

    private static Step lots(int lots, int lastDay) {
        return book -> {
            for (int lot = 0; lot < lots; lot++) {
                book.fill(1, lot % 5, 10, lastDay);
            }
        };
    }

    private static Step and(Step first, Step then) {
        return book -> {
            first.on(book);
            then.on(book);
        };
    }

    private static void promise5FortyLots() {
        Step fill = book -> book.fill(0, 0, 1, 1);
        taken("5: 39 lots", lots(39, 9), fill);
        refused("5: 40 lots", Check.STATE, lots(40, 9), fill);
        refused("5: 40 lots, all empty", Check.STATE, and(lots(40, 0), book -> book.pass(2)), fill);
        refused("5: 40 lots, one of them moved", Check.STATE, and(lots(39, 9), book -> book.move(0, 3, 10)), fill);
    }

    private static void promise6FortyLots() {
        Step move = book -> book.move(0, 2, 10);
        taken("6: 39 lots", lots(39, 9), move);
        refused("6: 40 lots", Check.STATE, lots(40, 9), move);
        refused("6: 40 lots, a part of a lot", Check.STATE, lots(40, 9), book -> book.move(39, 0, 1));
    }

    /** The days 3 to 5 are cut off, and the day comes. */
    private static Step cutAndPass(int depot, int days) {
        return book -> {
            book.fill(1, 4, 10, 900);
            book.setCut(depot, 3, 5);
            book.pass(days);
        };
    }

    private static void promise6SourceCutOff() {
        Step move = book -> book.move(0, 2, 1);
        taken("6: the day before the first", cutAndPass(1, 2), move);
        refused("6: the first day", Check.STATE, cutAndPass(1, 3), move);
        refused("6: a day between", Check.STATE, cutAndPass(1, 4), move);
        refused("6: the last day", Check.STATE, cutAndPass(1, 5), move);
        taken("6: the day behind the last", cutAndPass(1, 6), move);
        taken("6: the cut was taken back", and(cutAndPass(1, 4), book -> book.setCut(1, 3, NONE)), move);
    }

    private static void promise6GoalCutOff() {
        Step move = book -> book.move(0, 2, 1);
        taken("6: the day before the first", cutAndPass(2, 2), move);
        refused("6: the first day", Check.STATE, cutAndPass(2, 3), move);
        refused("6: a day between", Check.STATE, cutAndPass(2, 4), move);
        refused("6: the last day", Check.STATE, cutAndPass(2, 5), move);
        taken("6: the day behind the last", cutAndPass(2, 6), move);
        taken("6: a third depot is cut off", cutAndPass(3, 4), move);
        refused("6: both are", Check.STATE, and(cutAndPass(1, 4), book -> book.setCut(2, 0, 900)), move);
        refused("6: the station is", Check.STATE, cutAndPass(0, 4), book -> book.move(0, 0, 1));
    }

    private static void promise6LotHasLess() {
        taken("6: the lot has one more", lots(1, 9), book -> book.move(0, 3, 9));
        taken("6: the lot has just that", lots(1, 9), book -> book.move(0, 3, 10));
        refused("6: the lot has one less", Check.STATE, lots(1, 9), book -> book.move(0, 3, 11));
        refused("6: the lot has far less", Check.STATE, lots(1, 9), book -> book.move(0, 3, 1000));
        refused("6: the lot is empty", Check.STATE, and(lots(1, 9), book -> book.count(0, 0)),
                book -> book.move(0, 3, 1));
    }

    private static void promise7CutOff() {
        Step count = book -> book.count(0, 3);
        taken("7: the day before the first", cutAndPass(1, 2), count);
        refused("7: the first day", Check.STATE, cutAndPass(1, 3), count);
        refused("7: a day between", Check.STATE, cutAndPass(1, 4), count);
        refused("7: the last day", Check.STATE, cutAndPass(1, 5), count);
        taken("7: the day behind the last", cutAndPass(1, 6), count);
        taken("7: another depot is cut off", cutAndPass(2, 4), count);
        refused("7: nothing would change", Check.STATE, cutAndPass(1, 3), book -> book.count(0, 10));
    }

    private static Step day(int day) {
        return book -> {
            book.fill(0, 0, 1000, 1000);
            book.setPeople(0, 1);
            while (book.today() < day) {
                book.pass(Math.min(60, day - book.today()));
            }
        };
    }

    private static void promise9LastDay() {
        taken("9: sixty days to the day 1500", day(1440), book -> book.pass(60));
        refused("9: sixty days to the day 1501", Check.STATE, day(1441), book -> book.pass(60));
        taken("9: a day to the day 1500", day(1499), book -> book.pass(1));
        refused("9: two days to the day 1501", Check.STATE, day(1499), book -> book.pass(2));
        refused("9: a day to the day 1501", Check.STATE, day(1500), book -> book.pass(1));
        refused("9: sixty days to the day 1560", Check.STATE, day(1500), book -> book.pass(60));
        CHECK.same("9: no call comes beyond", brought(day(1500)).today(), 1500);
    }

    private static Step crews(int crews) {
        return book -> {
            book.fill(0, 0, 10, 10);
            for (int crew = 1; crew < crews; crew++) {
                book.nextCrew();
            }
        };
    }

    private static void promise10TwentyCrews() {
        taken("10: there were 19 crews", crews(19), book -> book.nextCrew());
        refused("10: there were 20 crews", Check.STATE, crews(20), book -> book.nextCrew());
    }

    private static void indexBeforeArgument() {
        Step lot = lots(1, 9);
        refused("2: depot before from", Check.INDEX, lot, book -> book.setCut(4, -1, 5));
        refused("2: depot before to", Check.INDEX, lot, book -> book.setCut(-1, 5, 4));
        refused("5: depot before amount", Check.INDEX, lot, book -> book.fill(4, 0, 0, 5));
        refused("5: depot before lastDay", Check.INDEX, lot, book -> book.fill(-1, 0, 1, -1));
        refused("5: good before amount", Check.INDEX, lot, book -> book.fill(0, 5, 1001, 5));
        refused("5: good before lastDay", Check.INDEX, lot, book -> book.fill(0, -1, 1, 1001));
        refused("6: lot before amount", Check.INDEX, lot, book -> book.move(1, 2, 0));
        refused("6: depot before amount", Check.INDEX, lot, book -> book.move(0, 4, 1001));
        refused("7: lot before amount", Check.INDEX, lot, book -> book.count(1, -1));
        refused("8: work before count", Check.INDEX, lot, book -> book.setPeople(3, 21));
    }

    private static void indexBeforeState() {
        refused("5: depot before 40 lots", Check.INDEX, lots(40, 9), book -> book.fill(4, 0, 1, 1));
        refused("5: good before 40 lots", Check.INDEX, lots(40, 9), book -> book.fill(0, 5, 1, 1));
        refused("6: lot before 40 lots", Check.INDEX, lots(40, 9), book -> book.move(40, 2, 1));
        refused("6: depot before 40 lots", Check.INDEX, lots(40, 9), book -> book.move(0, 4, 1));
        refused("6: lot before a goal that is cut off", Check.INDEX, cutAndPass(2, 3), book -> book.move(1, 2, 1));
        refused("6: depot before a source that is cut off", Check.INDEX, cutAndPass(1, 3),
                book -> book.move(0, -1, 1));
        refused("6: depot before a lot that has less", Check.INDEX, lots(1, 9), book -> book.move(0, 4, 11));
    }

    private static void argumentBeforeState() {
        refused("5: amount before 40 lots", Check.ARGUMENT, lots(40, 9), book -> book.fill(0, 0, 0, 1));
        refused("5: lastDay before 40 lots", Check.ARGUMENT, lots(40, 9), book -> book.fill(0, 0, 1, 1001));
        refused("6: own depot before 40 lots", Check.ARGUMENT, lots(40, 9), book -> book.move(0, 1, 1));
        refused("6: amount before 40 lots", Check.ARGUMENT, lots(40, 9), book -> book.move(0, 2, 0));
        refused("6: own depot before cut off", Check.ARGUMENT, cutAndPass(1, 3), book -> book.move(0, 1, 1));
        refused("6: amount before a source that is cut off", Check.ARGUMENT, cutAndPass(1, 3),
                book -> book.move(0, 2, 0));
        refused("6: amount before a goal that is cut off", Check.ARGUMENT, cutAndPass(2, 3),
                book -> book.move(0, 2, 1001));
        refused("6: own depot before a lot that has less", Check.ARGUMENT, lots(1, 9), book -> book.move(0, 1, 11));
        refused("6: amount before a lot that has less", Check.ARGUMENT, lots(1, 9), book -> book.move(0, 2, 1001));
        refused("7: amount below 0 before cut off", Check.ARGUMENT, cutAndPass(1, 3), book -> book.count(0, -1));
        refused("7: amount above 1000 before cut off", Check.ARGUMENT, cutAndPass(1, 3), book -> book.count(0, 1001));
        refused("9: no days before the day 1500", Check.ARGUMENT, day(1500), book -> book.pass(0));
        refused("9: too many days before the day 1500", Check.ARGUMENT, day(1500), book -> book.pass(61));
        refused("9: as many days as there can be", Check.ARGUMENT, day(1500), book -> book.pass(Integer.MAX_VALUE));
    }
}
