import java.util.ArrayList;
import java.util.Comparator;
import java.util.List;

/**
 * The document once more, in another form than the class: rows of numbers, lots sorted for eating, stocks from
 * the lots alone. Runs of calls compare what the two answer.
 */
final class PlainBook {
    private final int[][] cut = new int[4][];
    private final boolean[] warm = {true, false, false, false};
    private int[] frost = null;
    private final int[] people = new int[3];
    private final int[] hunger = new int[3];
    private int today = 0;
    private int crew = 0;
    /** Each lot is depot, good, last day, amount. */
    private final List<int[]> lots = new ArrayList<>();
    /** Each entry is crew, lot, change, cause. */
    private final List<int[]> journal = new ArrayList<>();

    /** The call of this name, with as many arguments of the row as it takes. */
    long call(String name, int[] a) {
        switch (name) {
            case "setCut": return setCut(a[0], a[1], a[2]);
            case "setWarm": return setWarm(a[0], a[1] == 1);
            case "setFrost": return setFrost(a[0], a[1]);
            case "fill": return fill(a[0], a[1], a[2], a[3]);
            case "move": return move(a[0], a[1], a[2]);
            case "count": return count(a[0], a[1]);
            case "setPeople": return setPeople(a[0], a[1]);
            case "pass": return pass(a[0]);
            case "nextCrew": return nextCrew();
            case "today": return today;
            case "hunger": return hunger[index(a[0], 3)];
            case "lots": return lots.size();
            case "amount": return lots.get(index(a[0], lots.size()))[3];
            case "about": return 10 * lots.get(index(a[0], lots.size()))[0] + lots.get(a[0])[1];
            case "stock": case "stockByJournal": return stock(index(a[0], 4), index(a[1], 5));
            case "enoughFor": return enoughFor();
            case "entries": return journal.size();
            case "changeOf": return journal.get(index(a[0], journal.size()))[2];
            case "lotOf": return 10 * journal.get(index(a[0], journal.size()))[1] + journal.get(a[0])[3];
            case "changed": return changed(a[0], a[1]);
            default: throw new AssertionError(name);
        }
    }

    private static int index(int number, int size) {
        if (number < 0 || number >= size) {
            throw new IndexOutOfBoundsException();
        }
        return number;
    }

    private static void argument(boolean isInRange) {
        if (!isInRange) {
            throw new IllegalArgumentException();
        }
    }

    private static void state(boolean isAllowed) {
        if (!isAllowed) {
            throw new IllegalStateException();
        }
    }

    private static int[] days(int from, int to) {
        argument(0 <= from && from <= 1000);
        argument(to == -1 || from <= to && to <= 1000);
        return to == -1 ? null : new int[] {from, to};
    }

    private boolean isToday(int[] days) {
        return days != null && today >= days[0] && today <= days[1];
    }

    private long setCut(int depot, int from, int to) {
        index(depot, 4);
        cut[depot] = days(from, to);
        return isToday(cut[depot]) ? 1 : 0;
    }

    private long setWarm(int depot, boolean isWarm) {
        long was = warm[index(depot, 4)] ? 1 : 0;
        warm[depot] = isWarm;
        return was;
    }

    private long setFrost(int from, int to) {
        frost = days(from, to);
        return isToday(frost) ? 1 : 0;
    }

    private void change(int lot, int change, int cause) {
        if (change != 0) {
            lots.get(lot)[3] += change;
            journal.add(new int[] {crew, lot, change, cause});
        }
    }

    private long fill(int depot, int good, int amount, int lastDay) {
        index(depot, 4);
        index(good, 5);
        argument(amount >= 1 && amount <= 1000);
        argument(lastDay >= 0 && lastDay <= 1000);
        state(lots.size() < 40);
        lots.add(new int[] {depot, good, lastDay, 0});
        change(lots.size() - 1, amount, 0);
        return lots.size() - 1;
    }

    private long move(int lot, int depot, int amount) {
        int[] old = lots.get(index(lot, lots.size()));
        index(depot, 4);
        argument(old[0] != depot && amount >= 1 && amount <= 1000);
        state(!isToday(cut[old[0]]) && !isToday(cut[depot]) && old[3] >= amount && lots.size() < 40);
        change(lot, -amount, 1);
        lots.add(new int[] {depot, old[1], old[2], 0});
        change(lots.size() - 1, amount, 1);
        return lots.size() - 1;
    }

    private long count(int lot, int amount) {
        int[] counted = lots.get(index(lot, lots.size()));
        argument(amount >= 0 && amount <= 1000);
        state(!isToday(cut[counted[0]]));
        int by = amount - counted[3];
        change(lot, by, 5);
        return by;
    }

    private long setPeople(int work, int count) {
        int before = people[index(work, 3)];
        argument(count >= 0 && count <= 20);
        people[work] = count;
        return before;
    }

    private long nextCrew() {
        state(crew < 19);
        return ++crew;
    }

    private long pass(int days) {
        argument(days >= 1 && days <= 60);
        state(today + days <= 1500);
        long eaten = 0;
        for (int left = days; left > 0; left--) {
            eaten += passADay();
        }
        return eaten;
    }

    private long passADay() {
        for (int lot = 0; lot < lots.size(); lot++) {
            if (lots.get(lot)[2] < today) {
                change(lot, -lots.get(lot)[3], 4);
            }
        }
        for (int lot = 0; lot < lots.size() && isToday(frost); lot++) {
            int[] row = lots.get(lot);
            if (row[1] <= 1 && !warm[row[0]]) {
                change(lot, -(int) Math.ceil(row[3] / 10.0), 2);
            }
        }
        long all = need(0) + need(1) + need(2);
        long food = food();
        noteHunger(food, all);
        long eaten = food < all ? food : all;
        eat(eaten);
        today++;
        return eaten;
    }

    private long need(int work) {
        return people[work] * (2L + work);
    }

    private long food() {
        return stock(0, 0) + stock(0, 1) + stock(0, 2);
    }

    private void noteHunger(long food, long all) {
        if (food >= all) {
            return;
        }
        long[] got = new long[3];
        long left = food;
        for (int work = 0; work < 3; work++) {
            got[work] = food * need(work) / all;
            left -= got[work];
        }
        for (int work = 2; work >= 0; work--) {
            while (left > 0 && got[work] < need(work)) {
                got[work]++;
                left--;
            }
            hunger[work] += (int) (need(work) - got[work]);
        }
    }

    /** The sort keeps the order of lots with the same last day, so the lowest number comes first. */
    private void eat(long units) {
        List<Integer> order = new ArrayList<>();
        for (int lot = 0; lot < lots.size(); lot++) {
            if (lots.get(lot)[0] == 0 && lots.get(lot)[1] <= 2) {
                order.add(lot);
            }
        }
        order.sort(Comparator.comparingInt(lot -> lots.get(lot)[2]));
        long left = units;
        for (int lot : order) {
            long part = Math.min(left, lots.get(lot)[3]);
            change(lot, (int) -part, 3);
            left -= part;
        }
    }

    private long stock(int depot, int good) {
        long sum = 0;
        for (int[] lot : lots) {
            sum += lot[0] == depot && lot[1] == good ? lot[3] : 0;
        }
        return sum;
    }

    private long enoughFor() {
        long all = need(0) + need(1) + need(2);
        return all == 0 ? -1 : food() / all;
    }

    private long changed(int asked, int cause) {
        argument(asked >= 0 && cause >= 0 && cause <= 5);
        long sum = 0;
        for (int[] entry : journal) {
            sum += entry[0] == asked && entry[3] == cause ? entry[2] : 0;
        }
        return sum;
    }
}
