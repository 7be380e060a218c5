/** A town in which something of everything has happened, for calls after which all must be as it was. */
final class BoundsTown {
    static final String TEXT = "room hall door 6 floor 20;room shop door 4 floor 9;room attic door 2 floor 5;"
        + "room yard door 9 floor 99;way hall shop takes 5;way shop attic takes 7;way hall attic takes 20;"
        + "person ann strong 10 chair 20 wide 2 at hall;person bob strong 30 chair 6 wide 3 at hall;"
        + "person cy strong 5 chair 10 wide 4 at shop;person di strong 99 chair 99 wide 1 at attic;"
        + "joined ann bob;slow weight/strong+own;stands takes*2;carpenter shop;breaks 50;";
    static final int HALL = 0;
    static final int SHOP = 1;
    static final int ATTIC = 2;
    static final int YARD = 3;
    static final int ANN = 0;
    static final int BOB = 1;
    static final int CY = 2;
    static final int DI = 3;

    /** Questions whose answers no undo and no town takes away: the latest image. */
    static final String[] OCTETS = octets();
    /** Questions whose answers acts do not change but a busy object has: image, errand, standing, seed, fault. */
    static final String[] TOLD = told();

    private BoundsTown() {
    }

    static OwnChair untouched() {
        return Check.made(TEXT);
    }

    /** Acts of each kind, chairs kept, one broken, an errand, a standing and an image told. */
    static OwnChair busy() {
        OwnChair x = untouched();
        // from seed 1 the first draw of 100 is 18: below 50, it breaks
        x.seed(1);
        x.go(DI, SHOP, DI);
        x.mend(DI, DI);
        x.seed(1);
        x.go(CY, HALL, CY);
        x.stay(CY, 30);
        x.seed(7);
        x.days(2);
        Check.errand(x, ANN, x.person(ANN, 0) == HALL ? SHOP : HALL, 0);
        Check.standing(x, YARD, 0);
        x.image();
        x.stay(BOB, 4);
        return x;
    }

    private static String[] octets() {
        String[] names = new String[75];
        for (int k = 0; k < names.length; k++) {
            names[k] = "octet(" + (k - 1) + ")";
        }
        return names;
    }

    private static String[] told() {
        java.util.List<String> names = new java.util.ArrayList<>(java.util.List.of(octets()));
        names.addAll(java.util.List.of("has(10)", "fault(0)", "fault(1)"));
        for (int k = -1; k <= 12; k++) {
            names.add("along(" + k + ")");
        }
        for (int person = -1; person <= 4; person++) {
            for (int room = -1; room <= 4; room++) {
                names.add("where(" + person + ", " + room + ")");
            }
        }
        return names.toArray(new String[0]);
    }
}
