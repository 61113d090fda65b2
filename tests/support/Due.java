/** Counts the answers that are not the ones that are due, and prints each. */
final class Due {
    private int wrong;
    private String promise = "";

    void promise(int number, String name) {
        promise = "promise " + number + " (" + name + "): ";
    }

    void is(String call, long got, long want) {
        if (got != want) {
            wrong++;
            System.out.println(promise + call + " answered " + got + ", due is " + want);
        }
    }

    void failed(String call, long got, int want) {
        is(call, got, WaveBuoys.FAILED + want);
    }

    void holds(String what, boolean answer) {
        is(what, answer ? 1 : 0, 1);
    }

    void end() {
        System.out.println(wrong == 0 ? "all answers are as due" : wrong + " answers are not as due");
        if (wrong != 0) {
            System.exit(1);
        }
    }
}
