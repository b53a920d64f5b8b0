/** Promises 18 to 22: sand and the store of cores. */
final class SandTest {
    private static final Class<IllegalArgumentException> ILLEGAL = IllegalArgumentException.class;
    private static final Class<IllegalStateException> STATE = IllegalStateException.class;
    private static final Class<UnsupportedOperationException> UNSUPPORTED = UnsupportedOperationException.class;

    public static void main(String[] arguments) {
        promise18Mill();
        promise18MostOfEach();
        promise19Sand();
        promise19SandUsed();
        promise20MakeCores();
        promise20TwentyLots();
        promise21GoodCores();
        promise21EldestFirst();
        promise21LotsKeepTheirHours();
        promise22Hours();
        Check.end("SandTest");
    }

    /** A gate and a casting, without a core. */
    private static Ironpour withPattern() {
        Ironpour x = new Ironpour();
        x.draw('g', 0, 0, 1, 1);
        x.draw('c', 0, 1, 1, 1);
        return x;
    }

    private static void sands(Ironpour x, String what, int... due) {
        for (int i = 0; i < due.length; i++) {
            char letter = "cwkfbsd".charAt(i);
            Check.same(what + ": sand " + letter, x.sand(letter), due[i]);
        }
    }

    private static void promise18Mill() {
        Ironpour x = new Ironpour();
        Check.same("nothing comes to it", x.mill(0, 0, 0, 0), 154);
        sands(x, "as it was", 80, 35, 30, 50, 0, 154, 135);
        Check.same("clay, water and coal", x.mill(7, 3, 20, 0), 174 - 32 / 5);
        sands(x, "more", 87, 38, 50, 50, 0, 168, 125);
        x.mill(0, 0, 0, 3);
        sands(x, "what is lost is cut", 87, 38, 50, 49, 0);
        x.mill(20, 20, 20, 50);
        sands(x, "half fresh", 107, 58, 70, 25, 0, 214 - 152 / 5, 200 - 25 - 35);
        Ironpour even = new Ironpour();
        even.mill(0, 0, 0, 50);
        sands(even, "just half", 80, 35, 30, 25, 0);
        Ironpour used = withPattern();
        used.mould();
        sands(used, "used once", 77, 27, 26, 52, 10);
        used.mill(0, 0, 0, 15);
        sands(used, "burnt parts lose too", 77, 27, 26, 45, 9);
        Ironpour half = withPattern();
        half.mould();
        half.mill(0, 0, 0, 50);
        sands(half, "just half of the burnt parts", 77, 27, 26, 26, 5);
        Ironpour cut = withPattern();
        cut.mould();
        cut.mill(0, 0, 0, 48);
        sands(cut, "24.96 of 52 and 4.8 of 10 are cut", 77, 27, 26, 28, 6);
        for (int wrong : new int[] {-1, 21, Integer.MIN_VALUE, Integer.MAX_VALUE}) {
            Check.refused(used, "mill clay", ILLEGAL, () -> used.mill(wrong, 1, 1, 1));
            Check.refused(used, "mill water", ILLEGAL, () -> used.mill(1, wrong, 1, 1));
            Check.refused(used, "mill coal", ILLEGAL, () -> used.mill(1, 1, wrong, 1));
        }
        for (int wrong : new int[] {-1, 51, Integer.MIN_VALUE, Integer.MAX_VALUE}) {
            Check.refused(used, "mill fresh", ILLEGAL, () -> used.mill(1, 1, 1, wrong));
        }
    }

    private static void promise18MostOfEach() {
        Ironpour x = new Ironpour();
        for (int i = 0; i < 11; i++) {
            x.mill(20, 0, 0, 0);
        }
        sands(x, "nearly the most", 300, 35);
        x.mill(1, 0, 0, 0);
        sands(x, "the most clay", 300, 35, 30, 50, 0, 600 - 850 / 5);
        for (int i = 0; i < 20; i++) {
            x.mill(0, 20, 20, 0);
        }
        sands(x, "the most of all", 300, 300, 300, 50, 0, 600 - 1800 / 5, 0);
    }

    private static void promise19Sand() {
        Ironpour x = new Ironpour();
        sands(x, "fresh", 80, 35, 30, 50, 0, 160 - 30 / 5, 200 - 50 - 15);
        for (char what : new char[] {'x', 'C', 0, ' ', 'm', 256 + 'c', 'p', 65535}) {
            Check.refused(x, "sand " + (int) what, ILLEGAL, () -> x.sand(what));
        }
        for (int i = 0; i < 30; i++) {
            x.mill(0, 20, 0, 0);
        }
        sands(x, "too wet is at least 0", 80, 300, 30, 50, 0, 0);
    }

    private static void promise19SandUsed() {
        Ironpour x = withPattern();
        x.draw('r', 1, 0, 1, 1);
        x.draw('o', 5, 5, 2, 1);
        x.draw('k', 8, 5, 4, 1);
        x.makeCores(10, 1);
        x.hours(1);
        x.mould();
        sands(x, "3 cells", 77, 27, 26, 52, 10, 154 - 38 / 5 - 2, 200 - 52 - 13 - 10);
        x.draw('c', 0, 1, 5, 1);
        x.mould();
        sands(x, "7 cells", 74, 19, 22, 54, 21, 148 - 106 / 5 - 5, 200 - 54 - 11 - 21);
        x.draw('c', 0, 1, 6, 1);
        x.mould();
        sands(x, "8 cells", 71, 11, 18, 56, 33, 142 - 174 / 5 - 8, 200 - 56 - 9 - 33);
        for (int i = 0; i < 3; i++) {
            x.mould();
        }
        sands(x, "as far as there are", 62, 0, 6, 62, 69);
        x.mould();
        x.mould();
        sands(x, "as far as there are", 56, 0, 0, 66, 93, 112 - 224 / 5 - 23, 200 - 66 - 93);
        Ironpour burnt = withPattern();
        burnt.draw('c', 0, 1, 12, 8);
        burnt.mould();
        sands(burnt, "97 cells", 77, 27, 26, 52, 34, 154 - 38 / 5 - 8, 200 - 52 - 13 - 34);
        Ironpour milled = withPattern();
        milled.draw('c', 0, 1, 12, 8);
        milled.mould();
        milled.mill(0, 0, 0, 35);
        sands(milled, "18.2 of 52 and 11.9 of 34 are cut", 77, 27, 26, 34, 23);
        for (int i = 0; i < 9; i++) {
            burnt.mould();
        }
        sands(burnt, "burnt parts have a most", 50, 0, 0, 70, 300, 0, 0);
        Ironpour poor = withPattern();
        for (int i = 1; i <= 27; i++) {
            poor.mould();
            if (i % 9 == 0) {
                poor.charge('s', 40);
                poor.tap(40);
                for (int k = 0; k < 9; k++) {
                    poor.pour();
                }
                poor.pig();
            }
        }
        sands(poor, "all clay is gone", 0, 0, 0, 104, 270);
    }

    private static void promise20MakeCores() {
        Ironpour x = new Ironpour();
        Check.same("makeCores", x.makeCores(1, 1), 1);
        Check.same("makeCores", x.makeCores(10, 24), 11);
        Check.same("none is good yet", x.goodCores(), 0);
        for (int wrong : new int[] {0, 11, -1, Integer.MIN_VALUE, Integer.MAX_VALUE}) {
            Check.refused(x, "makeCores count", ILLEGAL, () -> x.makeCores(wrong, 1));
        }
        for (int wrong : new int[] {0, 25, -1, Integer.MIN_VALUE, Integer.MAX_VALUE}) {
            Check.refused(x, "makeCores cure", ILLEGAL, () -> x.makeCores(1, wrong));
        }
        Check.same("makeCores behind that", x.makeCores(1, 1), 12);
    }

    private static void promise20TwentyLots() {
        Ironpour x = withPattern();
        for (int i = 1; i <= 20; i++) {
            Check.same("lot " + i, x.makeCores(1, 1), i);
        }
        Check.refused(x, "makeCores, 20 lots", STATE, () -> x.makeCores(1, 1));
        Check.refused(x, "makeCores, both wrong", ILLEGAL, () -> x.makeCores(0, 1));
        x.hours(1);
        x.draw('o', 5, 5, 1, 1);
        x.mould();
        Check.same("an empty lot is none", x.makeCores(1, 1), 20);
        Check.refused(x, "makeCores, 20 lots again", STATE, () -> x.makeCores(1, 1));
        Check.same("all are thrown away", x.hours(48) + x.hours(26), 19 + 1);
        for (int i = 1; i <= 20; i++) {
            Check.same("lot " + i + " behind that", x.makeCores(1, 1), i);
        }
    }

    private static void promise21GoodCores() {
        Ironpour x = new Ironpour();
        x.makeCores(3, 2);
        Check.same("fresh", x.goodCores(), 0);
        x.hours(1);
        Check.same("an hour ahead", x.goodCores(), 0);
        x.makeCores(4, 24);
        x.hours(1);
        Check.same("just cured", x.goodCores(), 3);
        x.hours(23);
        Check.same("both cured", x.goodCores(), 7);
        x.hours(48);
        Check.same("72 hours on less one", x.goodCores(), 7);
        x.hours(1);
        Check.same("72 hours on", x.goodCores(), 7);
        Check.same("thrown away", x.hours(1), 3);
        Check.same("behind 72 hours", x.goodCores(), 4);
    }

    private static void promise21EldestFirst() {
        Ironpour x = withPattern();
        for (int i = 0; i < 3; i++) {
            x.draw('o', 2 + 3 * i, 5, 2, 1);
        }
        x.makeCores(2, 24);
        x.makeCores(2, 3);
        x.hours(1);
        x.makeCores(2, 1);
        x.hours(2);
        Check.same("the eldest is not good yet", x.goodCores(), 4);
        x.mould();
        Check.same("three are taken", x.goodCores(), 1);
        Check.refused(x, "mould without cores", UNSUPPORTED, x::mould);
        x.hours(21);
        Check.same("with the slow ones", x.goodCores(), 3);
        x.hours(48);
        Check.same("the last of the third lot is thrown away first", x.hours(3), 1);
        Check.same("the first lot stays", x.goodCores(), 2);
        Check.same("for long", x.hours(21), 0);
        Check.same("but not for ever", x.hours(1), 2);
        x.makeCores(2, 5);
        x.makeCores(2, 1);
        x.hours(5);
        x.mould();
        Check.same("the first of as old ones was used up, so one of the other is left", x.hours(48) + x.hours(20), 0);
        Check.same("it goes an hour behind its 72", x.hours(1), 1);
    }

    /** A lot that is used up ahead of others must not change what these are. */
    private static void promise21LotsKeepTheirHours() {
        Ironpour x = withPattern();
        x.makeCores(1, 1);
        x.hours(48);
        x.hours(20);
        x.makeCores(2, 10);
        x.hours(3);
        x.makeCores(3, 2);
        x.draw('o', 5, 5, 2, 1);
        x.mould();
        Check.same("none of the others is good yet", x.goodCores(), 0);
        x.hours(2);
        Check.same("the third lot", x.goodCores(), 3);
        x.hours(5);
        Check.same("the second one as well", x.goodCores(), 5);
        Check.same("up to 72 hours", x.hours(48) + x.hours(19), 0);
        Check.same("behind that", x.hours(1), 3);
        Check.same("the second lot goes 4 hours later", x.hours(4), 0);
        Check.same("behind that", x.hours(1), 2);
    }

    private static void promise22Hours() {
        Ironpour x = new Ironpour();
        Check.same("nothing to throw away", x.hours(48), 0);
        x.makeCores(5, 1);
        x.makeCores(6, 2);
        Check.same("hours", x.hours(48), 0);
        Check.same("hours", x.hours(25), 0);
        Check.same("73 hours on", x.hours(1), 5);
        Check.same("74 hours on", x.hours(1), 6);
        Check.same("none left", x.hours(1), 0);
        Check.same("the store is empty", x.makeCores(1, 1), 1);
        for (int wrong : new int[] {0, 49, -1, Integer.MIN_VALUE, Integer.MAX_VALUE}) {
            Check.refused(x, "hours " + wrong, ILLEGAL, () -> x.hours(wrong));
        }
        x.makeCores(2, 1);
        Check.same("all of several lots", x.hours(48) + x.hours(26), 3);
    }
}
