/** Objects in the states at whose edges calls are tried: the same each time they are made. */
final class Dairies {
    /** The fullest dairy there is: 4 owners, each of another kind, 4 rows, 5 holes; 41 letters. */
    static final String FULLEST = "DO0O3O1O2R02R10R21R33Ha00He12Hm33Hp22Ht11";

    private Dairies() {
    }

    /** Two owners, one hole that is let, nothing kept; the text is that of the dairy. */
    static LetHoles small() {
        LetHoles x = Check.dairy("DO0O2R31Hb10");
        x.let(0, 0);
        return x;
    }

    /** In the midst of things: some acts, one slot kept, something tasted, a text with a fault. */
    static LetHoles midway() {
        LetHoles x = Check.dairy(FULLEST);
        x.let(0, 1);
        x.day();
        x.keep(1);
        x.eat(3, 13);
        x.sell(2, 1);
        x.let(3, 0);
        x.taste(7, 2, 1);
        x.taste(0, 9, 0);
        x.seed(-99L);
        Check.tell(x, "DO0R");
        return x;
    }

    /** Everything is full: 48 letters, 14 acts, 6 tasted, both slots kept; a hole is gone. */
    static LetHoles full() {
        LetHoles x = Check.dairy(FULLEST);
        for (int i = 0; i < 7; i++) {
            x.write('x');
        }
        x.eat(0, 13);
        x.eat(0, 9);
        x.keep(0);
        x.let(0, 1);
        x.let(4, 3);
        x.day();
        x.sell(2, 1);
        x.let(2, 0);
        x.keep(1);
        x.eat(1, 4);
        x.let(3, 0);
        x.let(3, 1);
        x.sell(0, 3);
        x.let(0, 2);
        x.eat(3, 1);
        x.let(2, 3);
        x.eat(2, 2);
        x.sell(4, 2);
        for (int i = 0; i < 6; i++) {
            x.taste(3 * i, i, i % 2);
        }
        x.seed(123456789L);
        return x;
    }
}
