/** Counts the answers that are not the ones that are due, and tells each of them. */
final class Check {
    private int wrong;
    private String sentence = "";

    /** The document's words by which the answers from here on are due. */
    void sentence(String words) {
        sentence = words;
    }

    void due(String what, long want, long got) {
        if (want != got) {
            tell(what + ": answered " + got + ", due is " + want);
        }
    }

    void due(String what, boolean want, boolean got) {
        if (want != got) {
            tell(what + ": answered " + got + ", due is " + want);
        }
    }

    void due(String what, String want, String got) {
        if (!want.equals(got)) {
            tell(what + ": answered\n" + got + "\ndue is\n" + want);
        }
    }

    void end() {
        if (wrong != 0) {
            System.out.println(wrong + " answers are not as due");
            System.exit(1);
        }
    }

    private void tell(String text) {
        wrong++;
        System.out.println(text);
        if (!sentence.isEmpty()) {
            System.out.println("    by: " + sentence);
        }
    }
}
