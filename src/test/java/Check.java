/** Counts and prints every call whose answer is not the one that is due. */
final class Check {
    private int wrong;
    private String promise = "";

    void promise(String name) {
        promise = name;
    }

    void due(String what, long got, long due) {
        if (got != due) {
            wrong++;
            System.out.println(promise + ": " + what + " answered " + got + ", due is " + due);
        }
    }

    void same(String what, String got, String due) {
        if (!got.equals(due)) {
            wrong++;
            System.out.println(promise + ": " + what + " is " + got + ", due is " + due);
        }
    }

    void holds(String what, boolean so) {
        if (!so) {
            wrong++;
            System.out.println(promise + ": " + what);
        }
    }

    void end() {
        System.out.println(wrong == 0 ? "all is as due" : wrong + " wrong");
        if (wrong != 0) System.exit(1);
    }
}
