import java.util.Arrays;

/** Promises 13 and 14, and the document's words on columns, on how many there are, and on terms within terms. */
public final class TermsColumnsTest {
    public static void main(String[] args) {
        columns();
        columnsOfEachKind();
        unions();
        widths();
        depths();
        order();
        Expect.finish("TermsColumnsTest");
    }

    /** Tables of 1, 6 and 3 columns. */
    private static RelationDesk desk() {
        return Expect.tables(1, 6, 3);
    }

    private static void right(int columns, int... words) {
        Expect.right(desk(), columns, words);
    }

    private static void wrong(int place, int... words) {
        Expect.wrong(desk(), place, words);
    }

    /** The same query within a DISTINCT, so that its kind's word is not the first one. */
    private static int[] within(int[] words) {
        int[] all = new int[words.length + 1];
        all[0] = 6;
        System.arraycopy(words, 0, all, 1, words.length);
        return all;
    }

    /** A column of a query that has so many columns there: the first and the last one can be, their neighbours can't. */
    private static void bounds(String what, int at, int width, int columns, int... words) {
        for (int c : new int[] {0, width - 1}) {
            Expect.edge("promise 13, " + what + " " + c + " of " + width + " columns: right", () ->
                right(columns, Expect.with(words, at, c)));
        }
        for (int c : Expect.outside(0, width - 1)) {
            Expect.edge("promise 14, " + what + " " + c + " of " + width + " columns: wrong at the kind's word", () -> {
                wrong(0, Expect.with(words, at, c));
                wrong(1, within(Expect.with(words, at, c)));
            });
        }
    }

    private static void columns() {
        bounds("SELECT's c", 1, 6, 6, 1, 0, 0, 0, 0, 1);
        bounds("SELECT's c", 1, 1, 1, 1, 0, 0, 0, 0, 0);
        bounds("PROJECT's only c", 2, 6, 1, 2, 1, 0, 0, 1);
        bounds("PROJECT's first c of 8", 2, 6, 8, 2, 8, 0, 0, 0, 0, 0, 0, 0, 0, 0, 1);
        bounds("PROJECT's last c of 8", 9, 6, 8, 2, 8, 0, 0, 0, 0, 0, 0, 0, 0, 0, 1);
        bounds("JOIN's c", 1, 3, 9, 4, 0, 0, 0, 2, 0, 1);
        bounds("JOIN's d", 2, 3, 9, 4, 0, 0, 0, 1, 0, 2);
        bounds("JOIN's c", 1, 6, 9, 4, 0, 0, 0, 1, 0, 2);
        bounds("JOIN's d", 2, 6, 9, 4, 0, 0, 0, 2, 0, 1);
        bounds("SORT's c, rising", 1, 3, 3, 7, 0, 0, 0, 2);
        bounds("SORT's c, falling", 1, 3, 3, 7, 0, 1, 0, 2);
        for (int o = 0; o <= 3; o++) {
            bounds("GROUP's c with o " + o, 1, 3, 2, 10, 0, o, 0, 0, 2);
            bounds("GROUP's d with o " + o, 3, 3, 2, 10, 0, o, 0, 0, 2);
        }
    }

    /** SELECT's column, of a term of each kind: how many columns that has. */
    private static void columnsOfEachKind() {
        ofPart("SELECT", 6, 1, 0, 0, 0, 0, 1);
        ofPart("PROJECT", 2, 2, 2, 0, 0, 0, 1);
        ofPart("PROJECT", 8, 2, 8, 0, 0, 0, 0, 0, 0, 0, 0, 0, 0);
        ofPart("CROSS", 9, 3, 0, 1, 0, 2);
        ofPart("CROSS", 12, 3, 0, 1, 0, 1);
        ofPart("JOIN", 9, 4, 0, 0, 0, 1, 0, 2);
        ofPart("UNION", 3, 5, 0, 2, 0, 2);
        ofPart("DISTINCT", 3, 6, 0, 2);
        ofPart("SORT", 3, 7, 0, 0, 0, 2);
        ofPart("LIMIT", 3, 8, 0, 0, 2);
        ofPart("COUNT", 1, 9, 0, 1);
        ofPart("GROUP", 2, 10, 0, 0, 0, 0, 1);
        ofPart("GROUP of a table of 1 column", 2, 10, 0, 0, 0, 0, 0);
    }

    private static void ofPart(String kind, int width, int... part) {
        int[] words = new int[part.length + 4];
        words[0] = 1;
        System.arraycopy(part, 0, words, 4, part.length);
        bounds("a SELECT's c over " + kind + ",", 1, width, width, words);
    }

    private static void unions() {
        Expect.edge("promise 13, UNION of as many columns: right, 1 and 12 too", () -> {
            right(1, 5, 0, 0, 0, 0);
            right(3, 5, 0, 2, 2, 3, 0, 0, 0, 0, 0);
            right(12, 5, 3, 0, 1, 0, 1, 3, 0, 1, 0, 1);
        });
        Expect.edge("promise 14, UNION of one column more or fewer: wrong at the kind's word", () -> {
            wrong(0, 5, 0, 2, 2, 2, 0, 0, 0, 0);
            wrong(0, 5, 0, 2, 2, 4, 0, 0, 0, 0, 0, 0);
            wrong(0, 5, 2, 2, 0, 0, 0, 0, 0, 2);
            wrong(1, 6, 5, 0, 0, 10, 0, 0, 0, 0, 0);
        });
    }

    private static void widths() {
        Expect.edge("promise 13, 12 columns of CROSS and of JOIN: right", () -> {
            right(12, 3, 0, 1, 0, 1);
            right(12, 4, 5, 5, 0, 1, 0, 1);
            right(12, 3, 2, 8, 0, 0, 0, 0, 0, 0, 0, 0, 0, 0, 3, 0, 0, 0, 2);
        });
        Expect.edge("promise 14, 13 columns of CROSS and of JOIN: wrong at the kind's word", () -> {
            wrong(0, 3, 0, 1, 3, 0, 1, 0, 0);
            wrong(0, 3, 3, 0, 1, 0, 1, 0, 0);
            wrong(0, 4, 0, 0, 0, 1, 3, 0, 1, 0, 0);
            wrong(0, 4, 0, 0, 3, 0, 1, 0, 1, 0, 0);
        });
        Expect.edge("promise 14, 24 columns: wrong at the kind's word of the term that has them", () ->
            wrong(0, 3, 3, 0, 1, 0, 1, 3, 0, 1, 0, 1));
        Expect.edge("promise 14, 13 columns within a term that has fewer: wrong nonetheless, at CROSS", () -> {
            wrong(1, 9, 3, 0, 1, 3, 0, 1, 0, 0);
            wrong(3, 2, 1, 0, 3, 0, 1, 3, 0, 1, 0, 0);
            wrong(4, 10, 0, 0, 0, 3, 0, 1, 3, 0, 1, 0, 0);
        });
        Expect.edge("promise 13, 12 columns through every kind that keeps them: right", () -> {
            right(12, 1, 11, 0, 0, 6, 7, 11, 0, 8, 5, 3, 0, 1, 0, 1);
            right(8, 2, 8, 11, 10, 9, 8, 3, 2, 1, 0, 3, 0, 1, 0, 1);
        });
    }

    /** The words so many times, then a SCAN of table 0. */
    private static int[] levels(int times, int... words) {
        int[] all = new int[times * words.length + 2];
        for (int i = 0; i < times * words.length; i++) {
            all[i] = words[i % words.length];
        }
        return all;
    }

    /** Ten terms within one another are right; with one more the eleventh's kind's word stands at a place. */
    private static void tenAndEleven(String kind, int columns, int eleventhAt, int... words) {
        Expect.edge("promise 13, ten terms within one another, nine of them " + kind + ": right", () ->
            right(columns, levels(9, words)));
        Expect.edge("promise 14, eleven terms within one another, ten of them " + kind
            + ": the eleventh is wrong at its kind's word, be it right, no kind, or missing", () -> {
            wrong(eleventhAt, levels(10, words));
            wrong(eleventhAt, Expect.with(levels(10, words), eleventhAt, 11));
            wrong(eleventhAt, Arrays.copyOf(levels(10, words), eleventhAt));
        });
    }

    private static void depths() {
        tenAndEleven("SELECTs", 1, 40, 1, 0, 0, 0);
        tenAndEleven("PROJECTs", 1, 30, 2, 1, 0);
        tenAndEleven("DISTINCTs", 1, 10, 6);
        tenAndEleven("SORTs", 1, 30, 7, 0, 0);
        tenAndEleven("LIMITs", 1, 20, 8, 1);
        tenAndEleven("COUNTs", 1, 10, 9);
        tenAndEleven("GROUPs", 2, 40, 10, 0, 0, 0);
        // Of the tenth pair it is the first term, ahead of the words that go deeper, that is the eleventh.
        tenAndEleven("CROSSes, by their second term", 10, 28, 3, 0, 0);
        tenAndEleven("JOINs, by their second term", 10, 48, 4, 0, 0, 0, 0);
        tenAndEleven("UNIONs, by their second term", 1, 28, 5, 0, 0);
        Expect.edge("promise 13, ten terms within one another by the first term of UNIONs: right", () ->
            right(1, 5, 5, 5, 5, 5, 5, 5, 5, 5, 0, 0, 0, 0, 0, 0, 0, 0, 0, 0, 0, 0, 0, 0, 0, 0, 0, 0, 0, 0));
        Expect.edge("promise 14, eleven by the first term of UNIONs: wrong at the eleventh's kind's word", () ->
            wrong(10, 5, 5, 5, 5, 5, 5, 5, 5, 5, 5, 0, 0, 0, 0));
        Expect.edge("promise 13, ten within one another on both sides: a side does not count for the other", () ->
            right(1, 5, 6, 6, 6, 6, 6, 6, 6, 6, 0, 0, 6, 6, 6, 6, 6, 6, 6, 6, 0, 0));
        Expect.edge("promise 14, eleven within one another on the second side: wrong there", () ->
            wrong(20, 5, 6, 6, 6, 6, 6, 6, 6, 6, 0, 0, 6, 6, 6, 6, 6, 6, 6, 6, 6, 0, 0));
        Expect.edge("promise 14, a number that can't be ahead of the eleventh term: wrong at the number", () ->
            wrong(1, 8, 101, 6, 6, 6, 6, 6, 6, 6, 6, 6, 0, 0));
        Expect.edge("promise 14, a column that can't be around the eleventh term: it is not looked at", () ->
            wrong(13, 1, 9, 0, 0, 6, 6, 6, 6, 6, 6, 6, 6, 6, 0, 0));
    }

    private static void order() {
        Expect.edge("promise 14, a column, and a word within its term, that can't be: wrong at the word", () -> {
            wrong(5, 1, 9, 0, 0, 0, 9);
            wrong(4, 1, 9, 0, 0, 11, 0);
            wrong(5, 1, 9, 0, 0, 8, -1, 0, 0);
            wrong(5, 1, 9, 0, 0, 0);
        });
        Expect.edge("promise 14, a number behind a column that can't be: wrong at the number", () -> {
            wrong(2, 1, -1, 6, 0, 0, 0);
            wrong(2, 7, -1, 2, 0, 0);
            wrong(2, 10, -1, 4, -1, 0, 0);
        });
        Expect.edge("promise 14, a column, and a word behind its term, that can't be: wrong at the kind's word", () -> {
            wrong(0, 1, 9, 0, 0, 0, 0, 99);
            wrong(1, 3, 1, 9, 0, 0, 0, 0, 99);
            wrong(1, 3, 1, 9, 0, 0, 0, 0);
        });
        Expect.edge("promise 14, columns of terms one in the other that can't be: the inner one's parts end first", () -> {
            wrong(4, 1, 9, 0, 0, 1, 9, 0, 0, 0, 0);
            wrong(6, 7, 9, 0, 2, 1, 9, 7, 9, 0, 0, 0);
            wrong(1, 5, 5, 0, 0, 0, 1, 0, 1);
        });
        Expect.edge("promise 14, columns of terms side by side that can't be: the first one's parts end first", () ->
            wrong(1, 3, 7, 9, 0, 0, 0, 7, 9, 0, 0, 0));
        Expect.edge("promise 14, JOIN's c and a column within its second term: that term's parts end first", () ->
            wrong(5, 4, 9, 0, 0, 0, 7, 9, 0, 0, 0));
        Expect.edge("promise 14, JOIN's c and a word within its second term that can't be: wrong at the word", () -> {
            wrong(6, 4, 9, 0, 0, 0, 0, 9);
            wrong(5, 4, 9, 0, 0, 0, 11);
            wrong(5, 4, 9, 0, 0, 0);
        });
        Expect.edge("promise 14, JOIN's c and too many columns, or UNION's: one place, the kind's word", () -> {
            wrong(0, 4, 9, 0, 0, 1, 3, 0, 1, 0, 0);
            wrong(0, 4, 9, 9, 0, 1, 0, 1);
        });
    }
}
