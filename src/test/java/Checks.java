import java.util.List;

/** What a test found: each answer that is not the one that is due is printed with the sentence it breaks. */
final class Checks {
    private static int made = 0;
    private static int wrong = 0;
    private static String sentence = "";

    private Checks() {
    }

    /** The checks behind this one are of a sentence of the document. */
    static void sentence(String words) {
        sentence = words;
    }

    static void due(String what, int got, int want) {
        made++;
        if (got != want) {
            wrong++;
            System.out.println("\"" + sentence + "\": " + what + " answered " + got + ", due is " + want);
        }
    }

    static void dueText(String what, String got, String want) {
        made++;
        if (!got.equals(want)) {
            wrong++;
            System.out.println("\"" + sentence + "\": " + what + " answered " + got + ", due is " + want);
        }
    }

    static void dueBytes(String what, Disk x, int sector, int[] want) {
        for (int i = 0; i < 32; i++) {
            due(what + ", octet(" + sector + ", " + i + ")", x.octet(sector, i), want[i]);
        }
    }

    static void dueTold(String what, Disk x, int... want) {
        for (int k = 0; k < want.length; k++) {
            due(what + ", told(" + k + ")", x.told(k), want[k]);
        }
    }

    /** Two lists of answers are the same. */
    static void dueSame(String what, List<Integer> got, List<Integer> want) {
        made++;
        if (!got.equals(want)) {
            wrong++;
            System.out.println("\"" + sentence + "\": " + what);
        }
    }

    static void finish() {
        System.out.println(wrong == 0 ? "all " + made + " answers are as due" : wrong + " answers are not as due");
        if (wrong != 0) {
            System.exit(1);
        }
    }
}
