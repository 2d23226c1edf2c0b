/** All that the questions to a book answer, as one text. */
final class Seen {
    private Seen() {
    }

    static String of(GlacierBook book) {
        StringBuilder seen = new StringBuilder();
        seen.append("day ").append(book.today()).append(" enough ").append(book.enoughFor());
        for (int work = 0; work < 3; work++) {
            seen.append(" hunger ").append(book.hunger(work));
        }
        for (int lot = 0; lot < book.lots(); lot++) {
            seen.append(" lot ").append(book.about(lot)).append(':').append(book.amount(lot));
        }
        return seen.append(" journal ").append(journal(book)).toString();
    }

    /** The entries as 'lotOf:changeOf', with a blank between two. */
    static String journal(GlacierBook book) {
        return journalFrom(book, 0);
    }

    static String journalFrom(GlacierBook book, int first) {
        StringBuilder seen = new StringBuilder();
        for (int entry = first; entry < book.entries(); entry++) {
            seen.append(entry == first ? "" : " ").append(book.lotOf(entry)).append(':').append(book.changeOf(entry));
        }
        return seen.toString();
    }

    static String amounts(GlacierBook book) {
        StringBuilder seen = new StringBuilder();
        for (int lot = 0; lot < book.lots(); lot++) {
            seen.append(lot == 0 ? "" : " ").append(book.amount(lot));
        }
        return seen.toString();
    }

    static String hunger(GlacierBook book) {
        return book.hunger(0) + " " + book.hunger(1) + " " + book.hunger(2);
    }
}
