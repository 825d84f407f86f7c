/** The sentences of the document that name a boundary case, each with a test of its own. */
final class Edge {
    private static Document document;
    private static String heading = "";
    private static int sentences = 0;

    private Edge() {
    }

    static void begin(Document read) {
        document = read;
    }

    /** The heading under which the sentences stand that come next. */
    static void in(String itsHeading) {
        heading = itsHeading;
    }

    static void sentence(String words, Runnable test) {
        int before = Due.asked();
        Due.about(heading + ", \"" + words + "\": ");
        Due.holds("the document says so", document == null || document.says(heading, words));
        test.run();
        Due.holds("the sentence is tested", Due.asked() > before + 1);
        Due.about("");
        sentences++;
    }

    static void end() {
        if (document != null) {
            for (String left : document.boundariesLeftOut()) {
                Due.holds("a test of its own for " + left, false);
            }
        }
        System.out.println(sentences + " sentences have a test of their own");
    }
}
