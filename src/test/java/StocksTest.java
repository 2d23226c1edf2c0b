/** Promises 13 to 18. */
public final class StocksTest {
    private static final int MIN = Integer.MIN_VALUE;
    private static final int MAX = Integer.MAX_VALUE;
    private static final Check CHECK = new Check();

    public static void main(String[] args) {
        promise13Lots();
        promises14And15Lot();
        promises16And17Stock();
        promises16And17Refusals();
        promise18EnoughFor();
        promise18OldAndOtherGoods();
        CHECK.end();
    }

    private static void promise13Lots() {
        GlacierBook book = new GlacierBook();
        CHECK.same("13: none", book.lots(), 0);
        book.fill(0, 0, 5, 0);
        book.move(0, 1, 5);
        CHECK.same("13: empty ones are counted", book.lots(), 2);
        book.count(1, 0);
        book.pass(3);
        CHECK.same("13: old ones too", book.lots(), 2);
    }

    private static void promises14And15Lot() {
        GlacierBook book = new GlacierBook();
        CHECK.refused(book, "14: no lot yet", Check.INDEX, () -> book.amount(0));
        CHECK.refused(book, "15: no lot yet", Check.INDEX, () -> book.about(0));
        book.fill(3, 4, 1000, 9);
        book.fill(0, 2, 1, 9);
        CHECK.same("14: first", book.amount(0), 1000);
        CHECK.same("14: second", book.amount(1), 1);
        CHECK.same("15: first", book.about(0), 34);
        CHECK.same("15: second", book.about(1), 2);
        book.count(0, 0);
        CHECK.same("14: empty", book.amount(0), 0);
        CHECK.same("15: empty", book.about(0), 34);
        for (int no : new int[] {-1, 2, 40, MIN, MAX}) {
            CHECK.refused(book, "14: lot " + no, Check.INDEX, () -> book.amount(no));
            CHECK.refused(book, "15: lot " + no, Check.INDEX, () -> book.about(no));
        }
    }

    private static void stocks(String what, GlacierBook book, int depot, int good, int due) {
        CHECK.same("16: " + what, book.stock(depot, good), due);
        CHECK.same("17: " + what, book.stockByJournal(depot, good), due);
    }

    private static void promises16And17Stock() {
        GlacierBook book = new GlacierBook();
        book.fill(1, 0, 100, 9);
        book.fill(1, 0, 50, 5);
        book.fill(1, 1, 7, 5);
        book.fill(2, 0, 3, 5);
        stocks("several lots", book, 1, 0, 150);
        stocks("another good", book, 1, 1, 7);
        stocks("another depot", book, 2, 0, 3);
        stocks("none of it", book, 3, 4, 0);
        book.move(0, 0, 40);
        stocks("moved from", book, 1, 0, 110);
        stocks("moved to", book, 0, 0, 40);
        book.count(1, 60);
        stocks("counted", book, 1, 0, 120);
        book.setFrost(0, 0);
        book.setPeople(0, 2);
        book.nextCrew();
        book.pass(1);
        stocks("frozen", book, 1, 0, 108);
        stocks("eaten", book, 0, 0, 36);
        book.pass(6);
        stocks("old", book, 1, 0, 54);
        stocks("all old", book, 2, 0, 0);
    }

    private static void promises16And17Refusals() {
        GlacierBook book = new GlacierBook();
        book.fill(1, 0, 100, 9);
        for (int no : new int[] {-1, 5, MIN, MAX}) {
            CHECK.refused(book, "16: depot " + no, Check.INDEX, () -> book.stock(no, 0));
            CHECK.refused(book, "16: good " + no, Check.INDEX, () -> book.stock(0, no));
            CHECK.refused(book, "17: depot " + no, Check.INDEX, () -> book.stockByJournal(no, 0));
            CHECK.refused(book, "17: good " + no, Check.INDEX, () -> book.stockByJournal(0, no));
        }
        CHECK.refused(book, "16: depot 4", Check.INDEX, () -> book.stock(4, 0));
        CHECK.refused(book, "17: depot 4", Check.INDEX, () -> book.stockByJournal(4, 0));
    }

    private static void promise18EnoughFor() {
        GlacierBook book = new GlacierBook();
        CHECK.same("18: nobody", book.enoughFor(), GlacierBook.NONE);
        book.setPeople(1, 2);
        CHECK.same("18: no food", book.enoughFor(), 0);
        book.fill(0, 0, 5, 100);
        CHECK.same("18: less than a day", book.enoughFor(), 0);
        book.fill(0, 1, 1, 100);
        CHECK.same("18: just a day", book.enoughFor(), 1);
        book.fill(0, 2, 11, 100);
        CHECK.same("18: rounded down", book.enoughFor(), 2);
        book.setPeople(0, 1);
        book.setPeople(2, 1);
        CHECK.same("18: for all works", book.enoughFor(), 1);
        book.setPeople(0, 0);
        book.setPeople(1, 0);
        book.setPeople(2, 0);
        CHECK.same("18: nobody again", book.enoughFor(), GlacierBook.NONE);
    }

    private static void promise18OldAndOtherGoods() {
        GlacierBook book = new GlacierBook();
        book.setPeople(0, 1);
        book.fill(0, 3, 100, 100);
        book.fill(0, 4, 100, 100);
        book.fill(1, 0, 100, 100);
        CHECK.same("18: no food in the station", book.enoughFor(), 0);
        book.pass(5);
        book.fill(0, 0, 20, 1);
        CHECK.same("18: old, but not thrown away yet", book.enoughFor(), 10);
        book.pass(1);
        CHECK.same("18: thrown away", book.enoughFor(), 0);
        book.fill(0, 0, 1000, 6);
        book.setFrost(0, 1000);
        book.setWarm(0, false);
        CHECK.same("18: as if nothing was lost", book.enoughFor(), 500);
    }
}
