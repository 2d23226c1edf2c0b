import java.util.ArrayList;

/**
 * A polar station's stores: lots in depots, frost, age, rations, counts, and a journal of every change.
 * The numbered promises that it keeps stand in ../shared/DOC.md.
 */
public final class GlacierBook {
    public static final int NONE = -1;
    public static final int FILLED = 0, MOVED = 1, FROZEN = 2, EATEN = 3, OLD = 4, COUNTED = 5;

    private static final int DEPOTS = 4;
    private static final int STATION = 0;
    private static final int GOODS = 5;
    private static final int FOODS = 3;
    private static final int FROST_SUFFERERS = 2;
    private static final int WORKS = 3;
    private static final int UNITS_FOR_WORK_0 = 2;

    private static final int MOST_LOTS = 40;
    private static final int MOST_AMOUNT = 1000;
    private static final int LAST_NAMED_DAY = 1000;
    private static final int MOST_PEOPLE = 20;
    private static final int MOST_DAYS_AT_ONCE = 60;
    private static final int LAST_DAY = 1500;
    private static final int MOST_CREWS = 20;

    /**
     * No run of 512 calls comes here: 1500 days freeze 40 lots at most (60,000 entries), each day eats one lot
     * in part (1,500), and whatever empties a lot, fills, moves or counts it needs a call (some 2,000).
     * The bound keeps the journal from growing without end in the calls after the 512th, whose answers are free.
     */
    private static final int MOST_ENTRIES = 65536;

    private final ArrayList<Depot> depots = new ArrayList<>();
    private final ArrayList<Lot> allLots = new ArrayList<>();
    private final ArrayList<Workers> workers = new ArrayList<>();
    private final ArrayList<Entry> journal = new ArrayList<>();
    private final Days frost = new Days();
    private int day = 0;
    private int crew = 0;

    public GlacierBook() {
        for (int number = 0; number < DEPOTS; number++) {
            depots.add(new Depot(number, number == STATION));
        }
        for (int work = 0; work < WORKS; work++) {
            workers.add(new Workers(UNITS_FOR_WORK_0 + work));
        }
    }

    // ---- depots and lots

    public boolean setCut(int depot, int from, int to)
            throws IndexOutOfBoundsException, IllegalArgumentException {
        requireDepot(depot);
        requireDays(from, to);
        Days cut = depots.get(depot).cut;
        cut.become(from, to);
        return cut.include(day);
    }

    public boolean setWarm(int depot, boolean isWarm) throws IndexOutOfBoundsException {
        requireDepot(depot);
        Depot place = depots.get(depot);
        boolean wasWarm = place.warm;
        place.warm = isWarm;
        return wasWarm;
    }

    public boolean setFrost(int from, int to) throws IllegalArgumentException {
        requireDays(from, to);
        frost.become(from, to);
        return frost.include(day);
    }

    public int fill(int depot, int good, int amount, int lastDay)
            throws IndexOutOfBoundsException, IllegalArgumentException, IllegalStateException {
        requireDepot(depot);
        requireGood(good);
        requireRange(amount, 1, MOST_AMOUNT);
        requireRange(lastDay, 0, LAST_NAMED_DAY);
        requireRoomForLot();
        return addLot(new Lot(allLots.size(), depots.get(depot), good, lastDay), amount, FILLED);
    }

    public int move(int lot, int depot, int amount)
            throws IndexOutOfBoundsException, IllegalArgumentException, IllegalStateException {
        requireLot(lot);
        requireDepot(depot);
        Lot source = allLots.get(lot);
        Depot goal = depots.get(depot);
        if (source.depot == goal) {
            throw new IllegalArgumentException("the lot is in this depot");
        }
        requireRange(amount, 1, MOST_AMOUNT);
        requireReached(source.depot);
        requireReached(goal);
        if (source.amount < amount) {
            throw new IllegalStateException("the lot has less");
        }
        requireRoomForLot();
        changeAmount(source, -amount, MOVED);
        return addLot(new Lot(allLots.size(), goal, source.good, source.lastDay), amount, MOVED);
    }

    public int count(int lot, int amount)
            throws IndexOutOfBoundsException, IllegalArgumentException, IllegalStateException {
        requireLot(lot);
        requireRange(amount, 0, MOST_AMOUNT);
        Lot counted = allLots.get(lot);
        requireReached(counted.depot);
        int change = amount - counted.amount;
        changeAmount(counted, change, COUNTED);
        return change;
    }

    // ---- people and days

    public int setPeople(int work, int count) throws IndexOutOfBoundsException, IllegalArgumentException {
        requireWork(work);
        requireRange(count, 0, MOST_PEOPLE);
        Workers group = workers.get(work);
        int before = group.people;
        group.people = count;
        return before;
    }

    public int pass(int days) throws IllegalArgumentException, IllegalStateException {
        requireRange(days, 1, MOST_DAYS_AT_ONCE);
        if (day > LAST_DAY - days) {
            throw new IllegalStateException("today would be later than the day 1500");
        }
        int eaten = 0;
        for (int passed = 0; passed < days; passed++) {
            throwAwayOld();
            freeze();
            eaten += feedPeople();
            day++;
        }
        return eaten;
    }

    public int nextCrew() throws IllegalStateException {
        if (crew >= MOST_CREWS - 1) {
            throw new IllegalStateException("there were 20 crews");
        }
        crew++;
        return crew;
    }

    public int today() {
        return day;
    }

    public int hunger(int work) throws IndexOutOfBoundsException {
        requireWork(work);
        return workers.get(work).missed;
    }

    // ---- stocks

    public int lots() {
        return allLots.size();
    }

    public int amount(int lot) throws IndexOutOfBoundsException {
        requireLot(lot);
        return allLots.get(lot).amount;
    }

    public int about(int lot) throws IndexOutOfBoundsException {
        requireLot(lot);
        Lot asked = allLots.get(lot);
        return 10 * asked.depot.number + asked.good;
    }

    public int stock(int depot, int good) throws IndexOutOfBoundsException {
        requireDepot(depot);
        requireGood(good);
        int sum = 0;
        for (int i = 0; i < allLots.size(); i++) {
            Lot lot = allLots.get(i);
            if (lot.isOf(depot, good)) {
                sum += lot.amount;
            }
        }
        return sum;
    }

    public int stockByJournal(int depot, int good) throws IndexOutOfBoundsException {
        requireDepot(depot);
        requireGood(good);
        int sum = 0;
        for (int i = 0; i < journal.size(); i++) {
            Entry entry = journal.get(i);
            if (entry.lot.isOf(depot, good)) {
                sum += entry.change;
            }
        }
        return sum;
    }

    public int enoughFor() {
        int need = needOfAll();
        return need > 0 ? foodInStation() / need : NONE;
    }

    // ---- the journal

    public int entries() {
        return journal.size();
    }

    public int changeOf(int entry) throws IndexOutOfBoundsException {
        requireEntry(entry);
        return journal.get(entry).change;
    }

    public int lotOf(int entry) throws IndexOutOfBoundsException {
        requireEntry(entry);
        Entry asked = journal.get(entry);
        return 10 * asked.lot.number + asked.cause;
    }

    public int changed(int crew, int cause) throws IllegalArgumentException {
        if (crew < 0) {
            throw new IllegalArgumentException("crew is below 0");
        }
        requireRange(cause, FILLED, COUNTED);
        int sum = 0;
        for (int i = 0; i < journal.size(); i++) {
            Entry entry = journal.get(i);
            if (entry.crew == crew && entry.cause == cause) {
                sum += entry.change;
            }
        }
        return sum;
    }

    // ---- what arguments and state have to be

    private void requireDepot(int depot) {
        requireIndex(depot, depots.size());
    }

    private void requireGood(int good) {
        requireIndex(good, GOODS);
    }

    private void requireLot(int lot) {
        requireIndex(lot, allLots.size());
    }

    private void requireWork(int work) {
        requireIndex(work, workers.size());
    }

    private void requireEntry(int entry) {
        requireIndex(entry, journal.size());
    }

    private static void requireIndex(int index, int size) {
        if (index < 0 || index >= size) {
            throw new IndexOutOfBoundsException("there is no such number");
        }
    }

    private static void requireRange(int value, int least, int most) {
        if (value < least || value > most) {
            throw new IllegalArgumentException("an argument is out of its range");
        }
    }

    private static void requireDays(int from, int to) {
        requireRange(from, 0, LAST_NAMED_DAY);
        if (to != NONE) {
            requireRange(to, from, LAST_NAMED_DAY);
        }
    }

    private void requireReached(Depot depot) {
        if (depot.cut.include(day)) {
            throw new IllegalStateException("a depot is cut off today");
        }
    }

    private void requireRoomForLot() {
        if (allLots.size() >= MOST_LOTS) {
            throw new IllegalStateException("there are 40 lots");
        }
    }

    // ---- changes of lots

    private int addLot(Lot lot, int amount, int cause) {
        allLots.add(lot);
        changeAmount(lot, amount, cause);
        return lot.number;
    }

    /** Every change goes through here, so that the journal can never differ from the lots. */
    private void changeAmount(Lot lot, int change, int cause) {
        if (change == 0) {
            return;
        }
        lot.amount += change;
        if (journal.size() < MOST_ENTRIES) {
            journal.add(new Entry(crew, lot, change, cause));
        }
    }

    // ---- the steps of a day

    private void throwAwayOld() {
        for (int i = 0; i < allLots.size(); i++) {
            Lot lot = allLots.get(i);
            if (lot.lastDay < day) {
                changeAmount(lot, -lot.amount, OLD);
            }
        }
    }

    private void freeze() {
        if (!frost.include(day)) {
            return;
        }
        for (int i = 0; i < allLots.size(); i++) {
            Lot lot = allLots.get(i);
            if (lot.good < FROST_SUFFERERS && !lot.depot.warm) {
                changeAmount(lot, -((lot.amount + 9) / 10), FROZEN);
            }
        }
    }

    private int feedPeople() {
        int food = foodInStation();
        int need = needOfAll();
        if (food < need) {
            cutRations(food, need);
        }
        int eaten = Math.min(food, need);
        eatFromLots(eaten);
        return eaten;
    }

    private int foodInStation() {
        int sum = 0;
        for (int i = 0; i < allLots.size(); i++) {
            Lot lot = allLots.get(i);
            if (lot.isFoodInStation()) {
                sum += lot.amount;
            }
        }
        return sum;
    }

    private int needOfAll() {
        int sum = 0;
        for (int work = 0; work < workers.size(); work++) {
            sum += workers.get(work).need();
        }
        return sum;
    }

    private void cutRations(int food, int need) {
        if (need <= 0) {
            return;
        }
        int left = food;
        for (int work = 0; work < workers.size(); work++) {
            Workers group = workers.get(work);
            group.ration = food * group.need() / need;
            left -= group.ration;
        }
        for (int work = workers.size() - 1; work >= 0; work--) {
            Workers group = workers.get(work);
            int extra = Math.min(left, group.need() - group.ration);
            group.ration += extra;
            left -= extra;
            group.missed += group.need() - group.ration;
        }
    }

    private void eatFromLots(int units) {
        int left = units;
        for (int eatenOf = 0; eatenOf < MOST_LOTS && left > 0; eatenOf++) {
            Lot lot = nextToEat();
            if (lot == null) {
                return;
            }
            int part = Math.min(left, lot.amount);
            changeAmount(lot, -part, EATEN);
            left -= part;
        }
    }

    /** The lot to eat of first, or null if there is no food in the station; of equals the lowest number wins. */
    private Lot nextToEat() {
        Lot next = null;
        for (int i = 0; i < allLots.size(); i++) {
            Lot lot = allLots.get(i);
            boolean eatable = lot.isFoodInStation() && lot.amount > 0;
            if (eatable && (next == null || lot.lastDay < next.lastDay)) {
                next = lot;
            }
        }
        return next;
    }

    /** Days from one to another one, both included; no day is in it while the last one is NONE. */
    private static final class Days {
        private int from = 0;
        private int to = NONE;

        void become(int newFrom, int newTo) {
            from = newFrom;
            to = newTo;
        }

        boolean include(int asked) {
            return from <= asked && asked <= to;
        }
    }

    private static final class Depot {
        final int number;
        final Days cut = new Days();
        boolean warm;

        Depot(int number, boolean warm) {
            this.number = number;
            this.warm = warm;
        }
    }

    private static final class Lot {
        final int number;
        final Depot depot;
        final int good;
        final int lastDay;
        int amount = 0;

        Lot(int number, Depot depot, int good, int lastDay) {
            this.number = number;
            this.depot = depot;
            this.good = good;
            this.lastDay = lastDay;
        }

        boolean isOf(int askedDepot, int askedGood) {
            return depot.number == askedDepot && good == askedGood;
        }

        boolean isFoodInStation() {
            return depot.number == STATION && good < FOODS;
        }
    }

    /** All who do the same work: food is shared out to them together. */
    private static final class Workers {
        final int unitsEach;
        int people = 0;
        int ration = 0;
        int missed = 0;

        Workers(int unitsEach) {
            this.unitsEach = unitsEach;
        }

        int need() {
            return people * unitsEach;
        }
    }

    private static final class Entry {
        final int crew;
        final Lot lot;
        final int change;
        final int cause;

        Entry(int crew, Lot lot, int change, int cause) {
            this.crew = crew;
            this.lot = lot;
            this.change = change;
            this.cause = cause;
        }
    }
}
