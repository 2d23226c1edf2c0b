/** Promises 19 to 22. */
public final class JournalTest {
    private static final int MIN = Integer.MIN_VALUE;
    private static final int MAX = Integer.MAX_VALUE;
    private static final Check CHECK = new Check();

    public static void main(String[] args) {
        promise19Entries();
        promises20And21Entry();
        promise22Changed();
        promise22Refusals();
        longJournal();
        farTooLongJournal();
        CHECK.end();
    }

    private static void promise19Entries() {
        GlacierBook book = new GlacierBook();
        CHECK.same("19: none", book.entries(), 0);
        book.fill(1, 4, 5, 0);
        CHECK.same("19: filled", book.entries(), 1);
        book.move(0, 2, 1);
        CHECK.same("19: a move has two", book.entries(), 3);
        book.count(0, 4);
        book.setCut(0, 0, 1);
        book.setWarm(0, true);
        book.setPeople(0, 1);
        book.nextCrew();
        book.pass(1);
        CHECK.same("19: none for a change of 0", book.entries(), 3);
        book.pass(1);
        CHECK.same("19: old", book.entries(), 5);
    }

    private static void promises20And21Entry() {
        GlacierBook book = new GlacierBook();
        CHECK.refused(book, "20: no entry yet", Check.INDEX, () -> book.changeOf(0));
        CHECK.refused(book, "21: no entry yet", Check.INDEX, () -> book.lotOf(0));
        for (int lot = 0; lot < 12; lot++) {
            book.fill(1, 0, 20 + lot, 1);
        }
        book.move(11, 0, 30);
        book.count(11, 2);
        book.setPeople(0, 1);
        book.setFrost(0, 0);
        book.pass(1);
        CHECK.same("20: filled", book.changeOf(11), 31);
        CHECK.same("21: filled", book.lotOf(11), 110);
        CHECK.same("20: moved from", book.changeOf(12), -30);
        CHECK.same("21: moved from", book.lotOf(12), 111);
        CHECK.same("20: moved to", book.changeOf(13), 30);
        CHECK.same("21: moved to", book.lotOf(13), 121);
        CHECK.same("20: counted", book.changeOf(14), 1);
        CHECK.same("21: counted", book.lotOf(14), 115);
        CHECK.same("20: frozen", book.changeOf(15), -2);
        CHECK.same("21: frozen", book.lotOf(15), 2);
        CHECK.same("20: last frozen", book.changeOf(26), -1);
        CHECK.same("21: last frozen", book.lotOf(26), 112);
        CHECK.same("20: eaten", book.changeOf(27), -2);
        CHECK.same("21: eaten", book.lotOf(27), 123);
        for (int no : new int[] {-1, 28, MIN, MAX}) {
            CHECK.refused(book, "20: entry " + no, Check.INDEX, () -> book.changeOf(no));
            CHECK.refused(book, "21: entry " + no, Check.INDEX, () -> book.lotOf(no));
        }
    }

    private static String changes(GlacierBook book, int crew) {
        StringBuilder changes = new StringBuilder();
        for (int cause = GlacierBook.FILLED; cause <= GlacierBook.COUNTED; cause++) {
            changes.append(cause == 0 ? "" : " ").append(book.changed(crew, cause));
        }
        return changes.toString();
    }

    private static void promise22Changed() {
        GlacierBook book = new GlacierBook();
        book.fill(1, 0, 100, 1);
        book.fill(0, 1, 50, 0);
        book.move(0, 2, 20);
        book.count(0, 70);
        book.nextCrew();
        CHECK.same("22: crew 0", changes(book, 0), "150 0 0 0 0 -10");
        CHECK.same("22: crew 1, at first", changes(book, 1), "0 0 0 0 0 0");
        book.setFrost(0, 0);
        book.setPeople(2, 1);
        book.pass(1);
        CHECK.same("22: crew 1", changes(book, 1), "0 0 -9 -4 0 0");
        book.nextCrew();
        book.pass(2);
        book.fill(3, 3, 1000, 1000);
        CHECK.same("22: crew 2", changes(book, 2), "1000 0 0 0 -127 0");
        CHECK.same("22: crew 0 is as it was", changes(book, 0), "150 0 0 0 0 -10");
        CHECK.same("22: no such crew", changes(book, 3), "0 0 0 0 0 0");
        CHECK.same("22: no such crew, far off", changes(book, MAX), "0 0 0 0 0 0");
    }

    private static void promise22Refusals() {
        GlacierBook book = new GlacierBook();
        book.fill(1, 0, 100, 1);
        for (int no : new int[] {-1, MIN}) {
            CHECK.refused(book, "22: crew " + no, Check.ARGUMENT, () -> book.changed(no, 0));
        }
        for (int no : new int[] {-1, 6, MIN, MAX}) {
            CHECK.refused(book, "22: cause " + no, Check.ARGUMENT, () -> book.changed(0, no));
            CHECK.refused(book, "22: cause of no crew", Check.ARGUMENT, () -> book.changed(30, no));
        }
    }

    /** As long a journal as 512 calls come to: the lots freeze away and are counted anew, again and again. */
    private static void longJournal() {
        GlacierBook book = new GlacierBook();
        book.setFrost(0, 1000);
        for (int lot = 0; lot < 40; lot++) {
            book.fill(1, 0, 1000, 1000);
        }
        int calls = 41;
        while (book.today() < 1000) {
            book.pass(40);
            calls++;
            for (int lot = 0; lot < 40 && book.today() % 80 == 0 && calls < 480; lot++) {
                book.count(lot, 1000);
                calls++;
            }
        }
        CHECK.same("19: calls stay below 512", calls < 512, true);
        CHECK.same("19: a long journal", book.entries() > 15000, true);
        CHECK.same("17: from all of it", book.stockByJournal(1, 0), book.stock(1, 0));
        CHECK.same("22: of all of it", book.changed(0, GlacierBook.FILLED) + book.changed(0, GlacierBook.FROZEN)
                + book.changed(0, GlacierBook.COUNTED), book.stock(1, 0));
    }

    /** What these calls answer is free, but they must end, and throw nothing. */
    private static void farTooLongJournal() {
        GlacierBook book = new GlacierBook();
        book.fill(0, 0, 1000, 1000);
        for (int call = 0; call < 70000; call++) {
            book.count(0, call % 2);
        }
        book.move(0, 1, 1);
        book.pass(60);
        CHECK.same("19: the journal has a bound", book.entries() <= 70000, true);
        CHECK.same("20: its last entry is there", Check.thrownBy(() -> book.changeOf(book.entries() - 1)) == null, true);
        CHECK.same("17: it can be asked", Check.thrownBy(() -> book.stockByJournal(0, 0)) == null, true);
    }
}
