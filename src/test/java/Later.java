/**
 * What a book answers if it goes on: days, counts and changes that bring out all that no question shows (which days
 * are cut off, which are frosty, what is warm, who works, which crew is there). It uses the book up.
 */
final class Later {
    private static final int DAYS = 8;

    private Later() {
    }

    static String of(GlacierBook book) {
        StringBuilder later = new StringBuilder();
        later.append("crew ").append(answer(book::nextCrew));
        for (int day = 0; day < DAYS; day++) {
            for (int lot = 0; lot < book.lots(); lot++) {
                int found = book.amount(lot) / 2 + day;
                int counted = lot;
                later.append(' ').append(answer(() -> book.count(counted, found)));
            }
            later.append(" eaten ").append(answer(() -> book.pass(1))).append(' ').append(Seen.of(book)).append('\n');
        }
        for (int depot = 0; depot < 4; depot++) {
            later.append(book.setWarm(depot, true) ? " warm" : " cold");
        }
        for (int work = 0; work < 3; work++) {
            later.append(" people ").append(book.setPeople(work, 0));
        }
        for (int crew = 0; crew < 20; crew++) {
            later.append(' ').append(book.changed(crew, GlacierBook.COUNTED));
        }
        return later.toString();
    }

    private interface Call {
        int made();
    }

    private static String answer(Call call) {
        int[] got = new int[1];
        Class<?> thrown = Check.thrownBy(() -> got[0] = call.made());
        return thrown == null ? Integer.toString(got[0]) : thrown.getSimpleName();
    }
}
