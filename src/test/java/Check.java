import java.util.List;

/** What the tests share: answers held against those that are due, and dairies told in one go. */
final class Check {
    static final int UNKNOWN = -1, OUTSIDE = -2, STATE = -3, FULL = -4, NONE = -9;

    private int right = 0;
    private int wrong = 0;

    void due(String call, long got, long want) {
        if (got == want) {
            right++;
        } else {
            wrong++;
            System.out.println(call + " answered " + got + ", due is " + want);
        }
    }

    /** Prints how it went and ends with exit code 1 if an answer was wrong, or none was looked at. */
    void end() {
        System.out.println(right + " answers as due, " + wrong + " not");
        if (wrong != 0 || right == 0) {
            System.exit(1);
        }
    }

    /** Every answer the same as it was, told by the first that is not. */
    void dueAlike(String when, List<String> got, List<String> want) {
        String differs = got.size() == want.size() ? "" : "asked " + got.size() + ", due is " + want.size();
        for (int i = 0; i < want.size() && i < got.size() && differs.isEmpty(); i++) {
            if (!got.get(i).equals(want.get(i))) {
                differs = got.get(i) + ", due is " + want.get(i);
            }
        }
        if (differs.isEmpty()) {
            right++;
        } else {
            wrong++;
            System.out.println(when + ": " + differs);
        }
    }

    static void tell(LetHoles x, String text) {
        x.wipe();
        for (int i = 0; i < text.length(); i++) {
            x.write(text.charAt(i));
        }
    }

    static LetHoles dairy(String text) {
        LetHoles x = new LetHoles();
        tell(x, text);
        if (x.dairy() < 0) {
            throw new IllegalStateException("no dairy: " + text);
        }
        return x;
    }

    static void days(LetHoles x, int n) {
        for (int i = 0; i < n; i++) {
            x.day();
        }
    }

    static int bits(int... places) {
        int bits = 0;
        for (int place : places) {
            bits |= 1 << place;
        }
        return bits;
    }

    void dueBalances(String when, LetHoles x, int... balances) {
        for (int owner = 0; owner < balances.length; owner++) {
            due(when + ": owner(" + owner + ", 1)", x.owner(owner, 1), balances[owner]);
        }
    }
}
