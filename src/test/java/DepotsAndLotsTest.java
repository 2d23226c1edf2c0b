/** Promises 1 to 7. */
public final class DepotsAndLotsTest {
    private static final int NONE = GlacierBook.NONE;
    private static final int MIN = Integer.MIN_VALUE;
    private static final int MAX = Integer.MAX_VALUE;
    private static final Check CHECK = new Check();

    public static void main(String[] args) {
        promise1NewBook();
        promise2CutDays();
        promise2Refusals();
        promise3Warmth();
        promise4FrostDays();
        promise5Fill();
        promise5Refusals();
        promise5FortyLots();
        promise6Move();
        promise6Refusals();
        promise6OrderOfRefusals();
        promise7Count();
        promise7Refusals();
        CHECK.end();
    }

    private static void promise1NewBook() {
        GlacierBook book = new GlacierBook();
        CHECK.same("1: new book", Seen.of(book), "day 0 enough -1 hunger 0 hunger 0 hunger 0 journal ");
        for (int depot = 0; depot < 4; depot++) {
            for (int good = 0; good < 5; good++) {
                CHECK.same("1: stock", book.stock(depot, good), 0);
                CHECK.same("1: stockByJournal", book.stockByJournal(depot, good), 0);
            }
            CHECK.same("1: warm " + depot, book.setWarm(depot, true), depot == 0);
            book.fill(depot, 4, 5, 9);
            CHECK.same("1: not cut off " + depot, book.count(depot, 4), -1);
        }
        for (int work = 0; work < 3; work++) {
            CHECK.same("1: nobody works", book.setPeople(work, 1), 0);
        }
        CHECK.same("1: crew 0 is there", book.changed(0, GlacierBook.FILLED), 20);
        CHECK.same("1: two books are two", new GlacierBook().lots(), 0);
    }

    private static void promise2CutDays() {
        GlacierBook book = new GlacierBook();
        CHECK.same("2: from today", book.setCut(0, 0, 0), true);
        CHECK.same("2: never", book.setCut(0, 0, NONE), false);
        CHECK.same("2: never, with another from", book.setCut(0, 1000, NONE), false);
        CHECK.same("2: from tomorrow", book.setCut(3, 1, 2), false);
        book.fill(3, 0, 10, 1000);
        book.fill(2, 0, 10, 1000);
        String cut = "";
        for (int day = 0; day < 5; day++) {
            cut += Check.thrownBy(() -> book.count(0, 10)) == Check.STATE ? "cut " : "free ";
            CHECK.same("2: the others are free", book.count(1, 10), 0);
            book.pass(1);
        }
        CHECK.same("2: both ends are in it", cut, "free cut cut free free ");
        CHECK.same("2: past", book.setCut(1, 0, 4), false);
        CHECK.same("2: till today", book.setCut(1, 0, 5), true);
        CHECK.same("2: last day there is", book.setCut(1, 1000, 1000), false);
        CHECK.same("2: all days", book.setCut(1, 0, 1000), true);
    }

    private static void promise2Refusals() {
        GlacierBook book = new GlacierBook();
        book.fill(1, 0, 10, 10);
        book.setCut(1, 0, 3);
        for (int depot : new int[] {-1, 4, MIN, MAX}) {
            CHECK.refused(book, "2: depot " + depot, Check.INDEX, () -> book.setCut(depot, 0, 1));
            CHECK.refused(book, "2: depot before from", Check.INDEX, () -> book.setCut(depot, -1, 2000));
        }
        int[][] days = {{-1, 5}, {-1, NONE}, {1001, 1001}, {1001, NONE}, {5, 4}, {1, 0}, {0, 1001}, {0, -2},
            {MIN, MAX}, {MAX, MIN}, {0, MIN}, {0, MAX}};
        for (int[] day : days) {
            CHECK.refused(book, "2: days " + day[0] + " " + day[1], Check.ARGUMENT,
                    () -> book.setCut(1, day[0], day[1]));
        }
        CHECK.refused(book, "2: still cut off", Check.STATE, () -> book.count(0, 3));
    }

    private static void promise3Warmth() {
        GlacierBook book = new GlacierBook();
        CHECK.same("3: station is warm", book.setWarm(0, false), true);
        CHECK.same("3: station was made cold", book.setWarm(0, false), false);
        CHECK.same("3: others are cold", book.setWarm(3, true), false);
        CHECK.same("3: made warm", book.setWarm(3, true), true);
        CHECK.same("3: its neighbour stayed cold", book.setWarm(2, false), false);
        for (int depot : new int[] {-1, 4, MIN, MAX}) {
            CHECK.refused(book, "3: depot " + depot, Check.INDEX, () -> book.setWarm(depot, true));
        }
        book.fill(0, 0, 10, 9);
        book.fill(3, 0, 10, 9);
        book.fill(2, 0, 10, 9);
        book.setFrost(0, 0);
        book.pass(1);
        CHECK.same("3: frost is in cold depots only", Seen.amounts(book), "9 10 9");
    }

    private static void promise4FrostDays() {
        GlacierBook book = new GlacierBook();
        CHECK.same("4: today", book.setFrost(0, 0), true);
        CHECK.same("4: never", book.setFrost(7, NONE), false);
        CHECK.same("4: from tomorrow", book.setFrost(1, 2), false);
        int[][] days = {{-1, 5}, {-1, NONE}, {1001, 1001}, {1001, NONE}, {5, 4}, {0, 1001}, {0, -2}, {MIN, MAX},
            {MAX, MIN}};
        for (int[] day : days) {
            CHECK.refused(book, "4: days " + day[0] + " " + day[1], Check.ARGUMENT,
                    () -> book.setFrost(day[0], day[1]));
        }
        book.fill(1, 0, 100, 1000);
        String amounts = "";
        for (int day = 0; day < 4; day++) {
            book.pass(1);
            amounts += book.amount(0) + " ";
        }
        CHECK.same("4: both ends are in it", amounts, "100 90 81 81 ");
        CHECK.same("4: till today", book.setFrost(0, 4), true);
        CHECK.same("4: last day there is", book.setFrost(1000, 1000), false);
    }

    private static void promise5Fill() {
        GlacierBook book = new GlacierBook();
        book.setCut(3, 0, 1000);
        CHECK.same("5: first", book.fill(0, 0, 1, 0), 0);
        CHECK.same("5: into a cut depot", book.fill(3, 4, 1000, 1000), 1);
        CHECK.same("5: same again", book.fill(3, 4, 1000, 1000), 2);
        book.pass(2);
        CHECK.same("5: old from the start", book.fill(1, 2, 7, 1), 3);
        CHECK.same("5: lots", book.lots(), 4);
        CHECK.same("5: what they are", book.about(0) + " " + book.about(1) + " " + book.about(3), "0 34 12");
        CHECK.same("5: amounts", Seen.amounts(book), "0 1000 1000 7");
        CHECK.same("5: journal", Seen.journal(book), "0:1 10:1000 20:1000 4:-1 30:7");
        book.pass(1);
        CHECK.same("5: lastDay counts", book.amount(3), 0);
    }

    private static void promise5Refusals() {
        GlacierBook book = new GlacierBook();
        book.fill(1, 1, 5, 5);
        for (int no : new int[] {-1, 5, MIN, MAX}) {
            CHECK.refused(book, "5: depot " + no, Check.INDEX, () -> book.fill(no, 0, 1, 1));
            CHECK.refused(book, "5: good " + no, Check.INDEX, () -> book.fill(0, no, 1, 1));
            CHECK.refused(book, "5: good before amount", Check.INDEX, () -> book.fill(0, no, 0, 1001));
        }
        CHECK.refused(book, "5: depot 4", Check.INDEX, () -> book.fill(4, 0, 1, 1));
        for (int no : new int[] {-1, 1001, MIN, MAX}) {
            CHECK.refused(book, "5: amount " + no, Check.ARGUMENT, () -> book.fill(0, 0, no, 1));
            CHECK.refused(book, "5: lastDay " + no, Check.ARGUMENT, () -> book.fill(0, 0, 1, no));
        }
        CHECK.refused(book, "5: amount 0", Check.ARGUMENT, () -> book.fill(0, 0, 0, 1));
    }

    private static GlacierBook bookOfFortyLots() {
        GlacierBook book = new GlacierBook();
        for (int lot = 0; lot < 40; lot++) {
            CHECK.same("5: up to 40 lots", book.fill(1, 4, 10, 0), lot);
        }
        return book;
    }

    private static void promise5FortyLots() {
        GlacierBook book = bookOfFortyLots();
        CHECK.refused(book, "5: 40 lots", Check.STATE, () -> book.fill(0, 0, 1, 1));
        CHECK.refused(book, "5: amount before 40 lots", Check.ARGUMENT, () -> book.fill(0, 0, 0, 1));
        CHECK.refused(book, "5: good before 40 lots", Check.INDEX, () -> book.fill(0, 5, 0, 1));
        CHECK.refused(book, "6: 40 lots", Check.STATE, () -> book.move(0, 0, 1));
        CHECK.refused(book, "6: own depot before 40 lots", Check.ARGUMENT, () -> book.move(0, 1, 1));
        book.pass(2);
        CHECK.same("5: all are empty", book.stock(1, 4), 0);
        CHECK.refused(book, "5: 40 empty lots", Check.STATE, () -> book.fill(0, 0, 1, 1));
        CHECK.same("5: lots", book.lots(), 40);
    }

    private static void promise6Move() {
        GlacierBook book = new GlacierBook();
        book.fill(3, 1, 1000, 2);
        CHECK.same("6: a part", book.move(0, 1, 300), 1);
        CHECK.same("6: all that is left", book.move(0, 2, 700), 2);
        CHECK.same("6: on from there", book.move(1, 0, 1), 3);
        CHECK.same("6: back", book.move(1, 3, 299), 4);
        CHECK.same("6: amounts", Seen.amounts(book), "0 0 700 1 299");
        CHECK.same("6: depots and good",
                book.about(1) + " " + book.about(2) + " " + book.about(3) + " " + book.about(4), "11 21 1 31");
        CHECK.same("6: journal", Seen.journal(book),
                "0:1000 1:-300 11:300 1:-700 21:700 11:-1 31:1 11:-299 41:299");
        book.pass(3);
        CHECK.same("6: on the last day it is good", Seen.amounts(book), "0 0 700 1 299");
        book.pass(1);
        CHECK.same("6: the last day is the old lot's", Seen.amounts(book), "0 0 0 0 0");
    }

    private static void promise6Refusals() {
        GlacierBook book = new GlacierBook();
        book.fill(1, 1, 10, 9);
        for (int no : new int[] {-1, 1, MIN, MAX}) {
            CHECK.refused(book, "6: lot " + no, Check.INDEX, () -> book.move(no, 0, 1));
        }
        for (int no : new int[] {-1, 4, MIN, MAX}) {
            CHECK.refused(book, "6: depot " + no, Check.INDEX, () -> book.move(0, no, 1));
        }
        CHECK.refused(book, "6: own depot", Check.ARGUMENT, () -> book.move(0, 1, 1));
        for (int no : new int[] {0, -1, 1001, MIN, MAX}) {
            CHECK.refused(book, "6: amount " + no, Check.ARGUMENT, () -> book.move(0, 0, no));
        }
        CHECK.refused(book, "6: less", Check.STATE, () -> book.move(0, 0, 11));
        book.setCut(1, 0, 0);
        CHECK.refused(book, "6: source is cut off", Check.STATE, () -> book.move(0, 0, 1));
        book.setCut(1, 0, NONE);
        book.setCut(2, 0, 0);
        CHECK.refused(book, "6: goal is cut off", Check.STATE, () -> book.move(0, 2, 1));
        CHECK.same("6: a third one is free", book.move(0, 3, 10), 1);
        CHECK.refused(book, "6: empty", Check.STATE, () -> book.move(0, 3, 1));
    }

    private static void promise6OrderOfRefusals() {
        GlacierBook book = new GlacierBook();
        book.fill(1, 1, 10, 9);
        book.setCut(1, 0, 0);
        CHECK.refused(book, "6: depot before amount", Check.INDEX, () -> book.move(0, 4, 0));
        CHECK.refused(book, "6: lot before amount", Check.INDEX, () -> book.move(1, 1, 0));
        CHECK.refused(book, "6: own depot before cut off", Check.ARGUMENT, () -> book.move(0, 1, 11));
        CHECK.refused(book, "6: amount before cut off", Check.ARGUMENT, () -> book.move(0, 0, 1001));
    }

    private static void promise7Count() {
        GlacierBook book = new GlacierBook();
        book.fill(1, 1, 10, 9);
        CHECK.same("7: less", book.count(0, 3), -7);
        CHECK.same("7: the same", book.count(0, 3), 0);
        CHECK.same("7: more", book.count(0, 1000), 997);
        CHECK.same("7: nothing", book.count(0, 0), -1000);
        CHECK.same("7: still nothing", book.count(0, 0), 0);
        CHECK.same("7: found again", book.count(0, 2), 2);
        CHECK.same("7: amount", book.amount(0), 2);
        CHECK.same("7: journal, without changes of 0", Seen.journal(book), "0:10 5:-7 5:997 5:-1000 5:2");
    }

    private static void promise7Refusals() {
        GlacierBook book = new GlacierBook();
        book.fill(1, 1, 10, 9);
        for (int no : new int[] {-1, 1, MIN, MAX}) {
            CHECK.refused(book, "7: lot " + no, Check.INDEX, () -> book.count(no, 1));
            CHECK.refused(book, "7: lot before amount", Check.INDEX, () -> book.count(no, -1));
        }
        book.setCut(1, 0, 0);
        CHECK.refused(book, "7: cut off", Check.STATE, () -> book.count(0, 5));
        CHECK.refused(book, "7: cut off, though nothing changes", Check.STATE, () -> book.count(0, 10));
        for (int no : new int[] {-1, 1001, MIN, MAX}) {
            CHECK.refused(book, "7: amount before cut off", Check.ARGUMENT, () -> book.count(0, no));
        }
        book.pass(1);
        CHECK.same("7: free again", book.count(0, 5), -5);
    }
}
