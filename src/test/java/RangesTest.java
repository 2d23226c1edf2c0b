/**
 * Each sentence of the document that names a range: both ends of it are taken and answered as due, the values next to
 * them and far off ones are refused with the exception that the sentence's promise names, and change nothing.
 */
public final class RangesTest {
    private static final Class<? extends RuntimeException> INDEX = Check.INDEX;
    private static final Class<? extends RuntimeException> ARGUMENT = Check.ARGUMENT;
    private static final int NONE = GlacierBook.NONE;
    private static final int MIN = Integer.MIN_VALUE;
    private static final int MAX = Integer.MAX_VALUE;
    private static final Check CHECK = new Check();

    /** A call with the one argument that is asked about; what shows that it was taken is its answer. */
    private interface Call {
        int on(GlacierBook book, int value);
    }

    public static void main(String[] args) {
        promise2();
        promise3();
        promise4();
        promise5();
        promise6();
        promise7();
        promise8();
        promise9();
        promise12();
        promises14And15();
        promises16And17();
        promises20And21();
        promise22();
        CHECK.end();
    }

    /** The day 5, with five lots and five entries, hunger of five days, and days to come that are cut off or frosty. */
    private static GlacierBook prepared() {
        GlacierBook book = new GlacierBook();
        for (int work = 0; work < 3; work++) {
            book.setPeople(work, 2);
        }
        book.pass(5);
        book.fill(1, 0, 1000, 1000);
        book.fill(0, 4, 41, 1000);
        book.fill(3, 0, 40, 1000);
        book.fill(3, 4, 44, 1000);
        book.fill(2, 3, 900, 1000);
        book.setCut(1, 7, 8);
        book.setFrost(6, 9);
        book.setWarm(2, true);
        return book;
    }

    private static void taken(String sentence, int value, int due, Call call) {
        GlacierBook book = prepared();
        Class<?> thrown = Check.thrownBy(() -> CHECK.same(sentence + ", " + value, call.on(book, value), due));
        CHECK.same(sentence + ", " + value + " is taken, not " + thrown, thrown == null, true);
    }

    private static void refused(String sentence, Class<? extends RuntimeException> due, int value, Call call) {
        GlacierBook book = prepared();
        CHECK.refused(book, sentence + ", " + value, due, () -> call.on(book, value));
        CHECK.same(sentence + ", " + value + " changes nothing that is not seen", Later.of(book), Later.of(prepared()));
    }

    private static void range(String sentence, Class<? extends RuntimeException> refusal, int least, int dueAtLeast,
            int most, int dueAtMost, Call call) {
        taken(sentence, least, dueAtLeast, call);
        taken(sentence, most, dueAtMost, call);
        for (int beyond : new int[] {least - 1, most + 1, MIN, MAX}) {
            refused(sentence, refusal, beyond, call);
        }
    }

    private static int number(boolean answer) {
        return answer ? 1 : 0;
    }

    private static void promise2() {
        range("2: depot: 0 to 3", INDEX, 0, 1, 3, 1, (book, depot) -> number(book.setCut(depot, 5, 5)));
        range("2: from: 0 to 1000", ARGUMENT, 0, 1, 1000, 0, (book, from) -> number(book.setCut(1, from, 1000)));
        range("2: from has to be in its range, also with NONE", ARGUMENT, 0, 0, 1000, 0,
                (book, from) -> number(book.setCut(1, from, NONE)));
        range("2: to: from to 1000, from 5", ARGUMENT, 5, 1, 1000, 1, (book, to) -> number(book.setCut(1, 5, to)));
        range("2: to: from to 1000, from 1000", ARGUMENT, 1000, 0, 1000, 0,
                (book, to) -> number(book.setCut(1, 1000, to)));
        taken("2: to: from to 1000, from 0", 0, 0, (book, to) -> number(book.setCut(1, 0, to)));
        taken("2: or NONE", NONE, 0, (book, to) -> number(book.setCut(1, 5, to)));
        refused("2: NONE is the only one below from", ARGUMENT, -2, (book, to) -> number(book.setCut(1, 0, to)));
    }

    private static void promise3() {
        range("3: depot: 0 to 3", INDEX, 0, 1, 3, 0, (book, depot) -> number(book.setWarm(depot, false)));
    }

    private static void promise4() {
        range("4: from: 0 to 1000", ARGUMENT, 0, 1, 1000, 0, (book, from) -> number(book.setFrost(from, 1000)));
        range("4: from has to be in its range, also with NONE", ARGUMENT, 0, 0, 1000, 0,
                (book, from) -> number(book.setFrost(from, NONE)));
        range("4: to: from to 1000, from 5", ARGUMENT, 5, 1, 1000, 1, (book, to) -> number(book.setFrost(5, to)));
        range("4: to: from to 1000, from 1000", ARGUMENT, 1000, 0, 1000, 0,
                (book, to) -> number(book.setFrost(1000, to)));
        taken("4: to: from to 1000, from 0", 0, 0, (book, to) -> number(book.setFrost(0, to)));
        taken("4: or NONE", NONE, 0, (book, to) -> number(book.setFrost(5, to)));
        refused("4: NONE is the only one below from", ARGUMENT, -2, (book, to) -> number(book.setFrost(0, to)));
    }

    private static void promise5() {
        range("5: depot: 0 to 3", INDEX, 0, 4, 3, 34, (book, depot) -> book.about(book.fill(depot, 4, 7, 9)));
        range("5: good: 0 to 4", INDEX, 0, 30, 4, 34, (book, good) -> book.about(book.fill(3, good, 7, 9)));
        range("5: amount: 1 to 1000", ARGUMENT, 1, 1, 1000, 1000,
                (book, amount) -> book.amount(book.fill(3, 4, amount, 9)));
        range("5: lastDay: 0 to 1000", ARGUMENT, 0, 0, 1000, 7, (book, lastDay) -> {
            int lot = book.fill(3, 4, 7, lastDay);
            book.pass(1);
            return book.amount(lot);
        });
    }

    private static void promise6() {
        range("6: lot: a lot", INDEX, 0, 30, 4, 33, (book, lot) -> book.about(book.move(lot, 3, 1)));
        range("6: depot: another one than that of the lot", INDEX, 0, 0, 3, 30,
                (book, depot) -> book.about(book.move(0, depot, 1)));
        taken("6: depot: one between them", 2, 20, (book, depot) -> book.about(book.move(0, depot, 1)));
        refused("6: the lot is in this depot", ARGUMENT, 1, (book, depot) -> book.move(0, depot, 1));
        range("6: amount: 1 to 1000", ARGUMENT, 1, 999, 1000, 0, (book, amount) -> {
            book.move(0, 3, amount);
            return book.amount(0);
        });
    }

    private static void promise7() {
        range("7: lot: a lot", INDEX, 0, -999, 4, -899, (book, lot) -> book.count(lot, 1));
        range("7: amount: 0 to 1000", ARGUMENT, 0, -900, 1000, 100, (book, amount) -> book.count(4, amount));
    }

    private static void promise8() {
        range("8: work: 0 to 2", INDEX, 0, 2, 2, 2, (book, work) -> book.setPeople(work, 20));
        range("8: count: 0 to 20", ARGUMENT, 0, 0, 20, 20, (book, count) -> {
            book.setPeople(1, count);
            return book.setPeople(1, 0);
        });
    }

    private static void promise9() {
        range("9: days: 1 to 60", ARGUMENT, 1, 6, 60, 65, (book, days) -> {
            book.pass(days);
            return book.today();
        });
    }

    private static void promise12() {
        range("12: work: 0 to 2", INDEX, 0, 20, 2, 40, (book, work) -> book.hunger(work));
    }

    private static void promises14And15() {
        range("14: lot: a lot", INDEX, 0, 1000, 4, 900, (book, lot) -> book.amount(lot));
        range("15: lot: a lot", INDEX, 0, 10, 4, 23, (book, lot) -> book.about(lot));
    }

    private static void promises16And17() {
        range("16: depot: 0 to 3", INDEX, 0, 41, 3, 44, (book, depot) -> book.stock(depot, 4));
        range("16: good: 0 to 4", INDEX, 0, 40, 4, 44, (book, good) -> book.stock(3, good));
        range("17: depot: 0 to 3", INDEX, 0, 41, 3, 44, (book, depot) -> book.stockByJournal(depot, 4));
        range("17: good: 0 to 4", INDEX, 0, 40, 4, 44, (book, good) -> book.stockByJournal(3, good));
    }

    private static void promises20And21() {
        range("20: entry: 0 for the first one", INDEX, 0, 1000, 4, 900, (book, entry) -> book.changeOf(entry));
        range("21: entry: 0 for the first one", INDEX, 0, 0, 4, 40, (book, entry) -> book.lotOf(entry));
    }

    private static void promise22() {
        taken("22: crew: 0 or more", 0, 2025, (book, crew) -> book.changed(crew, GlacierBook.FILLED));
        taken("22: 0 if there was no such crew", 1, 0, (book, crew) -> book.changed(crew, GlacierBook.FILLED));
        taken("22: 0 if there was no such crew", MAX, 0, (book, crew) -> book.changed(crew, GlacierBook.FILLED));
        refused("22: crew is below 0", ARGUMENT, -1, (book, crew) -> book.changed(crew, GlacierBook.FILLED));
        refused("22: crew is below 0", ARGUMENT, MIN, (book, crew) -> book.changed(crew, GlacierBook.FILLED));
        range("22: cause: FILLED to COUNTED", ARGUMENT, 0, 2025, 5, -400, (book, cause) -> {
            if (cause == GlacierBook.COUNTED) {
                book.count(0, 600);
            }
            return book.changed(0, cause);
        });
    }
}
