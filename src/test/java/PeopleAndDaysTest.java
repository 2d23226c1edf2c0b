/** Promises 8 to 12, and how a day passes. */
public final class PeopleAndDaysTest {
    private static final int MIN = Integer.MIN_VALUE;
    private static final int MAX = Integer.MAX_VALUE;
    private static final Check CHECK = new Check();

    public static void main(String[] args) {
        promise8People();
        promise9Refusals();
        promise9LastDay();
        promise9OldLots();
        promise9Frost();
        promise9OrderOfSteps();
        promise9OrderOfEating();
        promise9EatingOfAllLots();
        promise9FoodOfStationOnly();
        promise9CutRations();
        promise9LeftOverGoesDownTheWorks();
        promise9EatenOverDays();
        promise10Crews();
        promise11Today();
        promise12Hunger();
        CHECK.end();
    }

    private static void people(GlacierBook book, int work0, int work1, int work2) {
        book.setPeople(0, work0);
        book.setPeople(1, work1);
        book.setPeople(2, work2);
    }

    private static void promise8People() {
        GlacierBook book = new GlacierBook();
        CHECK.same("8: nobody before", book.setPeople(2, 20), 0);
        CHECK.same("8: 20 before", book.setPeople(2, 0), 20);
        CHECK.same("8: 0 before", book.setPeople(2, 3), 0);
        CHECK.same("8: other works keep theirs", book.setPeople(1, 5), 0);
        for (int no : new int[] {-1, 3, MIN, MAX}) {
            CHECK.refused(book, "8: work " + no, Check.INDEX, () -> book.setPeople(no, 1));
            CHECK.refused(book, "8: work before count", Check.INDEX, () -> book.setPeople(no, 21));
        }
        for (int no : new int[] {-1, 21, MIN, MAX}) {
            CHECK.refused(book, "8: count " + no, Check.ARGUMENT, () -> book.setPeople(2, no));
        }
        CHECK.same("8: refusals change nothing", book.setPeople(2, 1), 3);
        book.setPeople(0, 1);
        book.setPeople(1, 1);
        book.fill(0, 2, 100, 9);
        CHECK.same("8: the works need 2, 3 and 4", book.pass(1), 9);
    }

    private static void promise9Refusals() {
        GlacierBook book = new GlacierBook();
        book.fill(0, 0, 100, 0);
        book.setPeople(0, 1);
        for (int no : new int[] {0, -1, 61, MIN, MAX}) {
            CHECK.refused(book, "9: days " + no, Check.ARGUMENT, () -> book.pass(no));
        }
        CHECK.same("9: one day", book.pass(1), 2);
        CHECK.same("9: sixty days", book.pass(60), 0);
        CHECK.same("9: today", book.today(), 61);
    }

    private static void promise9LastDay() {
        GlacierBook book = new GlacierBook();
        for (int i = 0; i < 24; i++) {
            book.pass(60);
        }
        book.pass(59);
        book.fill(0, 0, 5, 1000);
        book.setPeople(0, 1);
        CHECK.refused(book, "9: two days too many by one", Check.STATE, () -> book.pass(2));
        CHECK.refused(book, "9: sixty days too many", Check.STATE, () -> book.pass(60));
        CHECK.refused(book, "9: 61 days", Check.ARGUMENT, () -> book.pass(61));
        CHECK.same("9: the day 1500 comes", book.pass(1), 0);
        CHECK.same("9: it is there", book.today(), 1500);
        CHECK.refused(book, "9: and no later one", Check.STATE, () -> book.pass(1));
        CHECK.refused(book, "9: days before the end", Check.ARGUMENT, () -> book.pass(0));
    }

    private static void promise9OldLots() {
        GlacierBook book = new GlacierBook();
        book.setCut(2, 0, 1000);
        book.fill(0, 4, 10, 1);
        book.fill(2, 3, 20, 0);
        book.fill(1, 0, 30, 1);
        book.pass(1);
        CHECK.same("9: on the last day all is good", Seen.amounts(book), "10 20 30");
        book.pass(1);
        CHECK.same("9: a day later it is thrown away, also where it is cut off", Seen.amounts(book), "10 0 30");
        book.pass(1);
        CHECK.same("9: all old", Seen.amounts(book), "0 0 0");
        book.pass(5);
        CHECK.same("9: by rising lots, once", Seen.journalFrom(book, 3), "14:-20 4:-10 24:-30");
        book.count(2, 4);
        book.pass(1);
        CHECK.same("9: what was found again is old too", Seen.journalFrom(book, 6), "25:4 24:-4");
    }

    private static void promise9Frost() {
        GlacierBook book = new GlacierBook();
        for (int good = 0; good < 5; good++) {
            book.fill(2, good, 100, 100);
        }
        int[] amounts = {1, 9, 10, 11, 20, 21, 999, 1000};
        for (int amount : amounts) {
            book.fill(1, 1, amount, 100);
        }
        book.fill(0, 0, 100, 100);
        book.fill(3, 0, 10, 100);
        book.count(14, 0);
        book.setCut(1, 0, 100);
        book.setFrost(0, 0);
        book.pass(2);
        CHECK.same("9: a tenth rounded up, of goods 0 and 1, in the cold, on frost days", Seen.amounts(book),
                "90 90 100 100 100 0 8 9 9 18 18 899 900 100 0");
        CHECK.same("9: by rising lots, none for an empty lot", Seen.journalFrom(book, 16),
                "2:-10 12:-10 52:-1 62:-1 72:-1 82:-2 92:-2 102:-3 112:-100 122:-100");
    }

    private static void promise9OrderOfSteps() {
        GlacierBook book = new GlacierBook();
        book.fill(0, 0, 20, 9);
        book.fill(0, 0, 10, 0);
        book.setWarm(0, false);
        book.pass(1);
        book.setFrost(1, 1);
        people(book, 0, 0, 5);
        int first = book.entries();
        CHECK.same("9: what is frozen or old is not eaten", book.pass(1), 18);
        CHECK.same("9: old, then frozen, then eaten", Seen.journalFrom(book, first), "14:-10 2:-2 3:-18");
        CHECK.same("9: hunger for the rest", Seen.hunger(book), "0 0 2");
    }

    private static void promise9OrderOfEating() {
        GlacierBook book = new GlacierBook();
        book.fill(0, 0, 3, 50);
        book.fill(0, 1, 3, 40);
        book.fill(0, 2, 3, 50);
        book.fill(0, 0, 3, 40);
        book.fill(0, 2, 3, 60);
        people(book, 0, 0, 1);
        book.pass(3);
        CHECK.same("9: earliest last day first, then lowest number", Seen.journalFrom(book, 5),
                "13:-3 33:-1 33:-2 3:-2 3:-1 23:-3");
        CHECK.same("9: what is left", Seen.amounts(book), "0 0 0 0 3");
    }

    private static void promise9EatingOfAllLots() {
        GlacierBook book = new GlacierBook();
        for (int lot = 0; lot < 40; lot++) {
            book.fill(0, 2, 1, 100 - lot);
        }
        people(book, 0, 0, 20);
        CHECK.same("9: of forty lots in a day", book.pass(1), 40);
        CHECK.same("9: an entry for each", book.entries(), 80);
        CHECK.same("9: the earliest last day is eaten first", book.lotOf(40), 393);
        CHECK.same("9: the latest last", book.lotOf(79), 3);
    }

    private static void promise9FoodOfStationOnly() {
        GlacierBook book = new GlacierBook();
        for (int good = 0; good < 5; good++) {
            book.fill(0, good, 10, 100);
            book.fill(1, good, 10, 100);
        }
        people(book, 20, 0, 0);
        book.setCut(0, 0, 1000);
        CHECK.same("9: they eat 0, 1 and 2, also if the station is cut off", book.pass(1), 30);
        CHECK.same("9: the rest stays", Seen.amounts(book), "0 10 0 10 0 10 10 10 10 10");
        CHECK.same("9: hunger", Seen.hunger(book), "10 0 0");
    }

    private static void promise9CutRations() {
        GlacierBook book = new GlacierBook();
        book.fill(0, 0, 3, 100);
        people(book, 3, 2, 1);
        CHECK.same("9: all that is there is eaten", book.pass(1), 3);
        CHECK.same("9: 1, 1 and 0 by rule, the one left over to work 2", Seen.hunger(book), "5 5 3");
        book.fill(0, 0, 15, 100);
        CHECK.same("9: 15 of 16", book.pass(1), 15);
        CHECK.same("9: 5, 5 and 3 by rule, and 2 left over of which work 2 needs 1, work 1 the other",
                Seen.hunger(book), "6 5 3");
        book.fill(0, 0, 16, 100);
        CHECK.same("9: just enough", book.pass(1), 16);
        CHECK.same("9: no hunger then", Seen.hunger(book), "6 5 3");
        CHECK.same("9: nothing there", book.pass(1), 0);
        CHECK.same("9: hunger for all that they need", Seen.hunger(book), "12 11 7");
    }

    private static void promise9LeftOverGoesDownTheWorks() {
        GlacierBook book = new GlacierBook();
        book.fill(0, 0, 4, 100);
        people(book, 1, 1, 0);
        book.pass(1);
        CHECK.same("9: 1 and 2 by rule, the one left over to work 1", Seen.hunger(book), "1 0 0");
        book.fill(0, 0, 5, 100);
        people(book, 1, 0, 1);
        book.pass(1);
        CHECK.same("9: 1 and 3 by rule, the one left over to work 2", Seen.hunger(book), "2 0 0");
        book.fill(0, 0, 8, 100);
        people(book, 1, 1, 1);
        book.pass(1);
        CHECK.same("9: 1, 2 and 3 by rule, two left over to works 2 and 1", Seen.hunger(book), "3 0 0");
        book.fill(0, 0, 7, 100);
        book.pass(1);
        CHECK.same("9: 1, 2 and 3 by rule, one left over to work 2", Seen.hunger(book), "4 1 0");
    }

    private static void promise9EatenOverDays() {
        GlacierBook book = new GlacierBook();
        book.fill(0, 0, 1000, 1);
        book.fill(0, 1, 100, 1000);
        people(book, 20, 20, 20);
        CHECK.same("9: units eaten in all days", book.pass(4), 460);
        CHECK.same("9: old ones were thrown away", book.changed(0, GlacierBook.OLD), -640);
        CHECK.same("9: hunger of two days", Seen.hunger(book),
                (40 - 22 + 40) + " " + (60 - 33 + 60) + " " + (80 - 45 + 80));
        CHECK.same("9: nobody there", new GlacierBook().pass(60), 0);
    }

    private static void promise10Crews() {
        GlacierBook book = new GlacierBook();
        for (int crew = 1; crew < 20; crew++) {
            CHECK.same("10: next crew", book.nextCrew(), crew);
        }
        book.fill(0, 0, 7, 7);
        CHECK.refused(book, "10: 20 crews", Check.STATE, () -> book.nextCrew());
        book.fill(0, 0, 8, 8);
        CHECK.same("10: the last crew is still there", book.changed(19, GlacierBook.FILLED), 15);
        CHECK.same("10: no crew 20", book.changed(20, GlacierBook.FILLED), 0);
    }

    private static void promise11Today() {
        GlacierBook book = new GlacierBook();
        CHECK.same("11: at first", book.today(), 0);
        book.pass(1);
        CHECK.same("11: a day later", book.today(), 1);
        book.pass(60);
        book.nextCrew();
        CHECK.same("11: sixty more, whatever crew", book.today(), 61);
    }

    private static void promise12Hunger() {
        GlacierBook book = new GlacierBook();
        people(book, 1, 0, 2);
        CHECK.same("12: none yet", Seen.hunger(book), "0 0 0");
        book.pass(3);
        CHECK.same("12: of three days", Seen.hunger(book), "6 0 24");
        people(book, 0, 0, 0);
        book.pass(3);
        CHECK.same("12: stays noted", Seen.hunger(book), "6 0 24");
        for (int no : new int[] {-1, 3, MIN, MAX}) {
            CHECK.refused(book, "12: work " + no, Check.INDEX, () -> book.hunger(no));
        }
    }
}
