/** What has been asked, for which sentence of the document, and what was not answered as due. */
final class Report {
    private static String place = "";
    private static int sentences = 0;
    private static int asked = 0;
    private static int wrong = 0;

    private Report() {
    }

    /** From here on the answers are asked for the sake of this sentence. */
    static void sentence(String where, String words) {
        sentences++;
        place = where + ", \"" + words + "\"";
    }

    static void due(String call, long got, long want) {
        asked++;
        if (got != want) {
            wrong++;
            System.out.println(place + ": " + call + " answered " + got + ", due is " + want);
        }
    }

    static void end() {
        System.out.println(sentences + " sentences, " + asked + " answers, " + wrong
                + " not as due");
        if (wrong != 0) {
            System.exit(1);
        }
    }
}
