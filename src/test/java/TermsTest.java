/** The sentences of the section 'Terms', one by one and each at its edges. */
public final class TermsTest {
    private static final int NONE = GlacierBook.NONE;
    private static final Check CHECK = new Check();

    public static void main(String[] args) {
        dayAndCrewAtFirst();
        stationIsDepot0();
        foodIsGoods0To2();
        goods0And1SufferFromFrost();
        lotsAreNumberedUpTo39();
        stationIsWarmAtFirst();
        nothingIsCutOffAtFirst();
        eachDepotHasItsOwnCutDays();
        lastNamedDayIsCutOff();
        noFrostAtFirst();
        frostDaysIncludeBothEnds();
        lastNamedDayIsFrosty();
        nobodyWorksAtFirst();
        workTakes2UnitsAndItsNumber();
        lastDayBeforeTodayIsThrownAway();
        lastNamedDayOfALot();
        allThatIsLeftIsThrownAway();
        frostTakesATenthRoundedUp();
        frostTakesNothingInTheWarm();
        frostTakesToTheLastUnit();
        earliestLastDayIsEatenFirst();
        lowestNumberIsEatenFirst();
        emptyLotsAreNotEatenOf();
        foodForAllAndOneUnitLess();
        rationsAreCutByRule();
        leftOverGoesByWork();
        hungerIsNotedForTheWorkAlone();
        stepsOfADay();
        manyDaysAreSingleDays();
        changeOf0HasNoEntry();
        entriesOfAStepRise();
        entriesBearTheCrewOfThen();
        lastOf512Calls();
        CHECK.end();
    }

    private static void people(GlacierBook book, int work0, int work1, int work2) {
        book.setPeople(0, work0);
        book.setPeople(1, work1);
        book.setPeople(2, work2);
    }

    private static void passTo(GlacierBook book, int day) {
        while (book.today() < day) {
            book.pass(Math.min(60, day - book.today()));
        }
    }

    private static void dayAndCrewAtFirst() {
        GlacierBook book = new GlacierBook();
        CHECK.same("today is the day 0 at first", book.today(), 0);
        book.fill(0, 0, 5, 5);
        CHECK.same("the crew 0 is there at first", book.changed(0, GlacierBook.FILLED), 5);
        CHECK.same("the next one is the crew 1", book.nextCrew(), 1);
    }

    private static void stationIsDepot0() {
        String eaten = "";
        for (int depot = 0; depot < 4; depot++) {
            GlacierBook book = new GlacierBook();
            book.fill(depot, 0, 10, 9);
            book.setPeople(0, 1);
            eaten += book.enoughFor() + ":" + book.pass(1) + " ";
        }
        CHECK.same("the depot 0 is the station", eaten, "5:2 0:0 0:0 0:0 ");
    }

    private static void foodIsGoods0To2() {
        String eaten = "";
        for (int good = 0; good < 5; good++) {
            GlacierBook book = new GlacierBook();
            book.fill(0, good, 10, 9);
            book.setPeople(0, 1);
            eaten += book.enoughFor() + ":" + book.pass(1) + " ";
        }
        CHECK.same("the goods 0, 1 and 2 are food", eaten, "5:2 5:2 5:2 0:0 0:0 ");
    }

    private static void goods0And1SufferFromFrost() {
        GlacierBook book = new GlacierBook();
        for (int good = 0; good < 5; good++) {
            book.fill(1, good, 10, 9);
        }
        book.setFrost(0, 0);
        book.pass(1);
        CHECK.same("the goods 0 and 1 suffer from frost", Seen.amounts(book), "9 9 10 10 10");
    }

    private static void lotsAreNumberedUpTo39() {
        GlacierBook book = new GlacierBook();
        for (int lot = 0; lot < 40; lot += 2) {
            CHECK.same("lots are numbered from 0", book.fill(3, 4, 10, 9), lot);
            CHECK.same("moved ones too", book.move(lot, 2, 4), lot + 1);
        }
        CHECK.same("at most 40", Check.thrownBy(() -> book.fill(3, 4, 10, 9)) == Check.STATE, true);
        CHECK.same("the last one", book.about(39) + " " + book.amount(39) + " " + book.lotOf(book.entries() - 1),
                "24 4 391");
    }

    private static void stationIsWarmAtFirst() {
        GlacierBook book = new GlacierBook();
        for (int depot = 0; depot < 4; depot++) {
            book.fill(depot, 0, 10, 9);
        }
        book.setFrost(0, 0);
        book.pass(1);
        CHECK.same("at first the station is warm, the others are cold", Seen.amounts(book), "10 9 9 9");
    }

    /** The depots, of those that hold the lots 0 to 3, that are cut off today. */
    private static String cutOff(GlacierBook book) {
        String cut = "";
        for (int lot = 0; lot < 4; lot++) {
            int counted = lot;
            cut += Check.thrownBy(() -> book.count(counted, 10)) == Check.STATE ? lot : "";
        }
        return cut;
    }

    private static GlacierBook aLotInEachDepot() {
        GlacierBook book = new GlacierBook();
        for (int depot = 0; depot < 4; depot++) {
            book.fill(depot, 4, 10, 1000);
        }
        return book;
    }

    private static void nothingIsCutOffAtFirst() {
        GlacierBook book = aLotInEachDepot();
        CHECK.same("at first none is cut off", cutOff(book), "");
        book.pass(1);
        CHECK.same("nor a day later", cutOff(book), "");
        passTo(book, 1500);
        CHECK.same("nor on the last day", cutOff(book), "");
    }

    private static void eachDepotHasItsOwnCutDays() {
        GlacierBook book = aLotInEachDepot();
        book.setCut(0, 1, 3);
        book.setCut(1, 2, 2);
        book.setCut(2, 0, 1);
        book.setCut(3, 3, 1000);
        String cut = "";
        for (int day = 0; day < 5; day++) {
            cut += cutOff(book) + " ";
            book.pass(1);
        }
        CHECK.same("from one day to another one, both included", cut, "2 02 01 03 3 ");
        book.setCut(3, 3, NONE);
        CHECK.same("or none", cutOff(book), "");
    }

    private static void lastNamedDayIsCutOff() {
        GlacierBook book = aLotInEachDepot();
        book.setCut(1, 0, 1000);
        book.setCut(2, 1000, 1000);
        passTo(book, 999);
        CHECK.same("the day 999", cutOff(book), "1");
        book.pass(1);
        CHECK.same("the day 1000", cutOff(book), "12");
        book.pass(1);
        CHECK.same("the day 1001", cutOff(book), "");
        CHECK.same("all days there are, asked on the day 1001", book.setCut(3, 0, 1000), false);
    }

    private static void noFrostAtFirst() {
        GlacierBook book = new GlacierBook();
        book.fill(1, 0, 10, 1000);
        passTo(book, 1001);
        CHECK.same("at first there is no frost", book.changed(0, GlacierBook.FROZEN), 0);
    }

    private static String amountsByDay(GlacierBook book, int lot, int days) {
        String amounts = "";
        for (int day = 0; day < days; day++) {
            book.pass(1);
            amounts += book.amount(lot) + " ";
        }
        return amounts;
    }

    private static void frostDaysIncludeBothEnds() {
        GlacierBook book = new GlacierBook();
        book.fill(1, 0, 1000, 1000);
        book.setFrost(2, 4);
        CHECK.same("from one day to another one, both included", amountsByDay(book, 0, 6),
                "1000 1000 900 810 729 729 ");
        book.setFrost(7, 7);
        CHECK.same("a single day", amountsByDay(book, 0, 3), "729 656 656 ");
        book.setFrost(0, 1000);
        book.setFrost(0, NONE);
        CHECK.same("or none", amountsByDay(book, 0, 2), "656 656 ");
    }

    private static void lastNamedDayIsFrosty() {
        GlacierBook book = new GlacierBook();
        book.setFrost(0, 1000);
        passTo(book, 999);
        book.fill(1, 0, 1000, 1000);
        CHECK.same("a frost day up to the day 1000", amountsByDay(book, 0, 2), "900 810 ");
        CHECK.same("all days there are, asked on the day 1001", book.setFrost(0, 1000), false);
    }

    private static void nobodyWorksAtFirst() {
        GlacierBook book = new GlacierBook();
        book.fill(0, 0, 10, 9);
        CHECK.same("at first there are none: nothing is eaten", book.pass(1), 0);
        CHECK.same("at first there are none: nobody needs food", book.enoughFor(), NONE);
    }

    private static void workTakes2UnitsAndItsNumber() {
        for (int work = 0; work < 3; work++) {
            GlacierBook book = new GlacierBook();
            book.fill(0, 0, 1000, 9);
            book.setPeople(work, 1);
            CHECK.same("one with the work " + work, book.pass(1), 2 + work);
            book.setPeople(work, 20);
            CHECK.same("twenty with the work " + work, book.pass(1), 40 + 20 * work);
        }
    }

    private static void lastDayBeforeTodayIsThrownAway() {
        GlacierBook book = new GlacierBook();
        book.fill(1, 4, 10, 3);
        CHECK.same("on the last day it is kept, a day later it is not", amountsByDay(book, 0, 5), "10 10 10 10 0 ");
        book.fill(2, 3, 10, 4);
        CHECK.same("filled when it was old, it lies till the day passes", book.amount(1), 10);
        book.fill(2, 3, 10, 5);
        CHECK.same("old by a day", amountsByDay(book, 1, 1), "0 ");
        CHECK.same("not old by a day", book.amount(2), 10);
    }

    private static void lastNamedDayOfALot() {
        GlacierBook book = new GlacierBook();
        book.fill(1, 4, 10, 1000);
        book.fill(1, 4, 10, 0);
        book.pass(1);
        CHECK.same("the day 0 as the last one: kept on it", Seen.amounts(book), "10 10");
        book.pass(1);
        CHECK.same("thrown away on the day 1", Seen.amounts(book), "10 0");
        passTo(book, 1001);
        CHECK.same("the day 1000 as the last one: kept on it", Seen.amounts(book), "10 0");
        book.pass(1);
        CHECK.same("thrown away on the day 1001", Seen.amounts(book), "0 0");
    }

    private static void allThatIsLeftIsThrownAway() {
        GlacierBook book = new GlacierBook();
        book.fill(0, 0, 1000, 0);
        book.setPeople(0, 1);
        book.move(0, 3, 500);
        book.setCut(3, 0, 1000);
        book.pass(1);
        CHECK.same("one lot was eaten of, one moved", Seen.amounts(book), "498 500");
        book.pass(1);
        CHECK.same("all that is left, wherever it is", Seen.amounts(book), "0 0");
        CHECK.same("one entry each", Seen.journalFrom(book, 4), "4:-498 14:-500");
    }

    private static void frostTakesATenthRoundedUp() {
        for (int first = 1; first <= 1000; first += 40) {
            GlacierBook book = new GlacierBook();
            for (int lot = 0; lot < 40; lot++) {
                book.fill(1, lot % 2, first + lot, 9);
            }
            book.setFrost(0, 0);
            book.pass(1);
            for (int lot = 0; lot < 40; lot++) {
                int amount = first + lot;
                int lost = amount / 10 + (amount % 10 == 0 ? 0 : 1);
                CHECK.same("a tenth of " + amount + ", rounded up", book.amount(lot), amount - lost);
            }
        }
    }

    private static void frostTakesNothingInTheWarm() {
        GlacierBook book = new GlacierBook();
        book.fill(0, 0, 100, 99);
        book.fill(1, 0, 100, 99);
        book.setFrost(0, 3);
        book.setWarm(1, true);
        book.pass(1);
        CHECK.same("in warm depots nothing is lost", Seen.amounts(book), "100 100");
        book.setWarm(0, false);
        book.pass(1);
        CHECK.same("the station was made cold", Seen.amounts(book), "90 100");
        book.setWarm(0, true);
        book.setWarm(1, false);
        book.pass(1);
        CHECK.same("and warm again, and the other one cold", Seen.amounts(book), "90 90");
        book.move(1, 0, 50);
        book.pass(1);
        CHECK.same("what was moved into the warm is kept", Seen.amounts(book), "90 36 50");
    }

    private static void frostTakesToTheLastUnit() {
        GlacierBook book = new GlacierBook();
        book.fill(1, 0, 3, 99);
        book.setFrost(0, 99);
        CHECK.same("a tenth rounded up takes the last unit", amountsByDay(book, 0, 5), "2 1 0 0 0 ");
        CHECK.same("and then nothing", book.entries(), 4);
    }

    private static void earliestLastDayIsEatenFirst() {
        GlacierBook book = new GlacierBook();
        book.fill(0, 0, 5, 12);
        book.fill(0, 2, 5, 11);
        book.fill(0, 1, 5, 10);
        book.setPeople(0, 4);
        CHECK.same("both days", book.pass(1), 8);
        CHECK.same("those with the earliest last day first", Seen.journalFrom(book, 3), "23:-5 13:-3");
        book.pass(1);
        CHECK.same("then the later ones", Seen.journalFrom(book, 5), "13:-2 3:-5");
    }

    private static void lowestNumberIsEatenFirst() {
        GlacierBook book = new GlacierBook();
        book.fill(0, 2, 5, 10);
        book.fill(0, 1, 5, 10);
        book.fill(0, 0, 5, 10);
        book.setPeople(0, 6);
        book.pass(1);
        CHECK.same("of several the lowest number", Seen.journalFrom(book, 3), "3:-5 13:-5 23:-2");
    }

    private static void emptyLotsAreNotEatenOf() {
        GlacierBook book = new GlacierBook();
        book.fill(0, 0, 5, 3);
        book.fill(0, 0, 5, 4);
        book.count(0, 0);
        book.setPeople(0, 1);
        book.pass(1);
        CHECK.same("an empty lot is passed over without an entry", Seen.journalFrom(book, 3), "13:-2");
    }

    private static void foodForAllAndOneUnitLess() {
        GlacierBook book = new GlacierBook();
        people(book, 1, 1, 1);
        book.fill(0, 0, 9, 9);
        CHECK.same("just what all need", book.pass(1), 9);
        CHECK.same("nobody goes hungry", Seen.hunger(book), "0 0 0");
        book.fill(0, 0, 8, 9);
        CHECK.same("a unit less", book.pass(1), 8);
        CHECK.same("a unit of hunger", book.hunger(0) + book.hunger(1) + book.hunger(2), 1);
        CHECK.same("nothing at all", book.pass(1), 0);
        CHECK.same("all that they need is hunger", book.hunger(0) + book.hunger(1) + book.hunger(2), 10);
    }

    /** The hunger of a day with so many people and so much food. */
    private static void hungerOfADay(int work0, int work1, int work2, int food, String due) {
        GlacierBook book = new GlacierBook();
        people(book, work0, work1, work2);
        if (food > 0) {
            book.fill(0, 0, food, 9);
        }
        String what = work0 + ", " + work1 + ", " + work2 + " people with " + food + " units";
        CHECK.same(what + " eat all", book.pass(1), food);
        CHECK.same(what + " go hungry", Seen.hunger(book), due);
    }

    private static void rationsAreCutByRule() {
        hungerOfADay(3, 2, 1, 8, "3 3 2");
        hungerOfADay(20, 20, 20, 90, "20 30 40");
        hungerOfADay(2, 0, 1, 4, "2 0 2");
        hungerOfADay(1, 0, 0, 1, "1 0 0");
        hungerOfADay(0, 7, 0, 20, "0 1 0");
        hungerOfADay(0, 0, 20, 0, "0 0 80");
    }

    private static void leftOverGoesByWork() {
        hungerOfADay(1, 1, 1, 1, "2 3 3");
        hungerOfADay(1, 1, 1, 2, "2 3 2");
        hungerOfADay(1, 1, 1, 5, "1 2 1");
        hungerOfADay(1, 1, 1, 7, "1 1 0");
        hungerOfADay(1, 1, 1, 8, "1 0 0");
        hungerOfADay(10, 0, 1, 23, "1 0 0");
        hungerOfADay(10, 1, 0, 22, "1 0 0");
        hungerOfADay(20, 1, 1, 46, "1 0 0");
        hungerOfADay(20, 20, 20, 179, "1 0 0");
        hungerOfADay(20, 20, 20, 1, "40 60 79");
    }

    private static void hungerIsNotedForTheWorkAlone() {
        GlacierBook book = new GlacierBook();
        for (int work = 0; work < 3; work++) {
            people(book, 0, 0, 0);
            book.setPeople(work, 1 + work);
            book.pass(2);
        }
        CHECK.same("what they do not get is noted for their work", Seen.hunger(book), "4 12 24");
    }

    private static void stepsOfADay() {
        GlacierBook book = new GlacierBook();
        book.fill(0, 0, 100, 1);
        book.fill(0, 0, 100, 0);
        book.setWarm(0, false);
        book.pass(1);
        book.setFrost(1, 1);
        people(book, 0, 20, 20);
        CHECK.same("what is thrown away or frozen is not there to eat", book.pass(1), 90);
        CHECK.same("1, 2, 3", Seen.journalFrom(book, 2), "14:-100 2:-10 3:-90");
        CHECK.same("4", book.today(), 2);
    }

    private static GlacierBook busyBook() {
        GlacierBook book = new GlacierBook();
        people(book, 3, 2, 5);
        book.setFrost(4, 30);
        book.setCut(1, 3, 20);
        book.setWarm(0, false);
        for (int lot = 0; lot < 30; lot++) {
            book.fill(lot % 4, lot % 5, 40 + 7 * lot, 2 * (lot * 17 % 30));
        }
        return book;
    }

    private static void manyDaysAreSingleDays() {
        GlacierBook atOnce = busyBook();
        GlacierBook dayByDay = busyBook();
        int eaten = 0;
        for (int day = 0; day < 60; day++) {
            eaten += dayByDay.pass(1);
        }
        CHECK.same("sixty days at once: eaten", atOnce.pass(60), eaten);
        CHECK.same("sixty days at once", Seen.of(atOnce), Seen.of(dayByDay));
        CHECK.same("eaten, by the journal", -atOnce.changed(0, GlacierBook.EATEN), eaten);
    }

    private static void changeOf0HasNoEntry() {
        GlacierBook book = new GlacierBook();
        book.fill(1, 0, 5, 0);
        book.count(0, 5);
        CHECK.same("counted as it was", book.entries(), 1);
        book.count(0, 0);
        book.setFrost(0, 9);
        book.setPeople(0, 5);
        book.pass(1);
        CHECK.same("nothing to freeze and nothing to eat", book.entries(), 2);
        book.pass(3);
        CHECK.same("nothing to throw away", book.entries(), 2);
    }

    private static void entriesOfAStepRise() {
        GlacierBook book = new GlacierBook();
        book.fill(2, 1, 10, 5);
        book.fill(1, 0, 10, 3);
        book.fill(3, 0, 10, 4);
        book.setFrost(0, 0);
        book.pass(1);
        CHECK.same("by rising lots, not by depot, good or last day", Seen.journalFrom(book, 3), "2:-1 12:-1 22:-1");
        passTo(book, 4);
        book.count(0, 9);
        book.pass(2);
        CHECK.same("day by day", Seen.journalFrom(book, 6), "14:-9 24:-9");
        book.pass(1);
        CHECK.same("and the last", Seen.journalFrom(book, 8), "4:-9");
    }

    private static void entriesBearTheCrewOfThen() {
        GlacierBook book = new GlacierBook();
        for (int crew = 0; crew < 20; crew++) {
            book.fill(1, 4, 100 + crew, 1000);
            if (crew < 19) {
                book.nextCrew();
            }
        }
        for (int crew = 0; crew < 20; crew++) {
            CHECK.same("the crew that is there then", book.changed(crew, GlacierBook.FILLED), 100 + crew);
        }
    }

    private static void lastOf512Calls() {
        GlacierBook book = new GlacierBook();
        book.fill(1, 4, 1, 1000);
        for (int call = 1; call < 510; call++) {
            book.count(0, 1 + call % 2);
        }
        CHECK.same("the 511th call", book.entries(), 510);
        CHECK.same("the 512th call", book.changeOf(509), 1);
    }
}
