/** Counts the answers that are not due; each test has one. */
final class Check {
    private int wrong;

    void same(String call, long got, long due) {
        if (got != due) {
            complain(call + " answered " + got + ", due is " + due);
        }
    }

    void same(String call, boolean got, boolean due) {
        if (got != due) {
            complain(call + " answered " + got + ", due is " + due);
        }
    }

    void sameDouble(String call, double got, double due) {
        if (Double.compare(got, due) != 0) {
            complain(call + " answered " + got + ", due is " + due);
        }
    }

    void sameText(String what, String got, String due) {
        if (!got.equals(due)) {
            complain(what + " is " + got + ", due is " + due);
        }
    }

    /**
     * The call must throw just this, no class below it, and leave the orchard as it was. The digest
     * takes in all that an orchard holds, at the cost of one call of the 512.
     */
    void refuses(String call, SplayOrchard orchard, Class<?> due, Runnable run) {
        long before = orchard.digest();
        Class<?> got = null;
        try {
            run.run();
        } catch (RuntimeException e) {
            got = e.getClass();
        }
        if (got != due) {
            complain(call + " threw " + got + ", due is " + due);
        }
        same("after the refused " + call + " digest()", orchard.digest(), before);
    }

    void complain(String text) {
        wrong++;
        System.out.println(text);
    }

    void end() {
        System.out.println(wrong == 0 ? "all answers are as due" : wrong + " answers are wrong");
        if (wrong != 0) {
            System.exit(1);
        }
    }
}
