/** What the tests share: counts wrong answers, and ends the program as a test of ../shared/tests does. */
final class Check {
    private final String test;
    private int asked = 0;
    private int wrong = 0;

    Check(String test) {
        this.test = test;
    }

    void due(String call, int got, int want) {
        asked++;
        if (got != want) {
            wrong++;
            System.out.println(test + ": " + call + " answered " + got + ", due is " + want);
        }
    }

    void due(String call, boolean got, boolean want) {
        due(call, got ? 1 : 0, want ? 1 : 0);
    }

    void end() {
        System.out.println(test + ": " + asked + " answers, " + wrong + " wrong");
        if (wrong != 0 || asked == 0) {
            System.exit(1);
        }
    }

    /** A desk's row filled with these numbers. */
    static KindDesk row(KindDesk desk, int... numbers) {
        for (int n : numbers) {
            desk.put(n);
        }
        return desk;
    }

    /** A desk with so many TYPES beside INT. */
    static KindDesk desk(int types) {
        KindDesk desk = new KindDesk();
        for (int i = 0; i < types; i++) {
            desk.type();
        }
        return desk;
    }
}
