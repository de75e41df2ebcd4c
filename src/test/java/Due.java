/** Counts the answers that are not the ones that are due. */
final class Due {
    private int wrong = 0;
    private String about = "";

    void about(String text) {
        about = text;
    }

    void is(String call, long got, long want) {
        if (got != want) {
            wrong++;
            System.out.println(about + ": " + call + " answered " + got + ", due is " + want);
        }
    }

    void isTrue(String what, boolean so) {
        if (!so) {
            wrong++;
            System.out.println(about + ": " + what);
        }
    }

    int wrong() {
        return wrong;
    }

    void end(String name) {
        System.out.println(name + (wrong == 0 ? ": all answers are as due" : ": " + wrong + " answers are not as due"));
        if (wrong != 0) {
            System.exit(1);
        }
    }
}
