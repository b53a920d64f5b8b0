/** Works and castings for tests, each casting with the faults that are asked for and no others. */
final class Yard {
    private Yard() {
    }

    /** A casting of one cell under feeders: 32 kilograms, speed 20, no faults. */
    static void drawSound(Ironpour x) {
        x.draw('.', 0, 0, 12, 9);
        x.draw('g', 4, 0, 3, 1);
        x.draw('r', 4, 1, 3, 4);
        x.draw('c', 5, 5, 1, 1);
    }

    static Ironpour sound() {
        Ironpour x = new Ironpour();
        drawSound(x);
        return x;
    }

    /** Empties the ladle, fills the furnace and taps as much of pig as is wanted. */
    static void tapPig(Ironpour x, int amount) {
        if (x.ladle('w') > 0) {
            x.pig();
        }
        x.charge('p', amount);
        x.tap(amount);
    }

    /** Sand that stays about as it was at first, however many moulds are made. */
    static void mouldInFreshSand(Ironpour x) {
        x.mill(3, 8, 4, 50);
        x.mould();
    }

    /** A casting with the faults in the sum. */
    static int cast(Ironpour x, int fault) {
        drawSound(x);
        if ((fault & 1) != 0) {
            x.draw('c', 7, 1, 4, 4);
        }
        if ((fault & 4) != 0) {
            x.draw('.', 4, 0, 3, 1);
            x.draw('g', 5, 0, 1, 3);
        }
        if ((fault & 16) != 0) {
            x.makeCores(1, 1);
            x.hours(1);
            x.draw('o', 0, 0, 1, 1);
        }
        mouldInFreshSand(x);
        if ((fault & 8) != 0) {
            x.minutes(60);
            x.minutes(1);
        }
        tapPig(x, (fault & 2) != 0 ? 10 : 100);
        if ((fault & 32) != 0) {
            x.treat(19);
        }
        int casting = x.pour();
        Check.same("a casting with the faults asked for", x.faults(casting), fault);
        return casting;
    }

    static int castDuctile(Ironpour x, int magnesium) {
        drawSound(x);
        mouldInFreshSand(x);
        tapPig(x, 100);
        x.treat(magnesium);
        return x.pour();
    }
}
