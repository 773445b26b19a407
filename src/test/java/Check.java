/** Counts the answers that are not the ones that are due, and tells each of them. */
final class Check {
    private int wrong;

    void due(String what, long want, long got) {
        if (want != got) {
            wrong++;
            System.out.println(what + ": answered " + got + ", due is " + want);
        }
    }

    void due(String what, boolean want, boolean got) {
        if (want != got) {
            wrong++;
            System.out.println(what + ": answered " + got + ", due is " + want);
        }
    }

    void due(String what, String want, String got) {
        if (!want.equals(got)) {
            wrong++;
            System.out.println(what + ": answered\n" + got + "\ndue is\n" + want);
        }
    }

    void end() {
        if (wrong != 0) {
            System.out.println(wrong + " answers are not as due");
            System.exit(1);
        }
    }
}
