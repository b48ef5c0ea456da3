/** Promises 6 and 7: solve, chosen. */
public final class ChoiceTest {
    private static final Due due = new Due();

    public static void main(String[] args) {
        withoutDemands();
        houseDemands();
        demandsOfVersions();
        orderOfChoices();
        ranges();
        demandsOnItself();
        noGoodChoice();
        notTried();
        noSuchName();
        negativeDemand();
        due.end("ChoiceTest");
    }

    /** Six digits: the versions that names 0 to 5 are given. */
    private static void are(String what, Told told, int solved, String versions) {
        due.is(what + ": solve()", told.builder.solve(), solved);
        StringBuilder got = new StringBuilder();
        for (int name = 0; name < 6; name++) {
            got.append(told.builder.chosen(name));
        }
        if (!got.toString().equals(versions)) {
            due.tellWrong(what + ": chosen are " + got + ", due are " + versions);
        }
        due.is(what + ": solve() behind that", told.builder.solve(), solved);
    }

    private static void withoutDemands() {
        are("nothing", new Told(), 1, "000000");
        are("versions alone", new Told().version(0, 1).version(5, 9), 1, "000000");
    }

    private static void houseDemands() {
        Told told = new Told().version(0, 3).version(0, 1).version(0, 7).houseWants(0, 1, 6);
        are("the greatest in the range", told, 1, "300000");
        are("a second demand", told.houseWants(0, 1, 2), 1, "100000");
        are("a third that goes against it", told.houseWants(0, 3, 9), 0, "000000");
        are("of the last name", new Told().version(5, 9).houseWants(5, 9, 9), 1, "000009");
        Told late = new Told().houseWants(2, 4, 4);
        are("of a name without versions", late, 0, "000000");
        are("with the wrong version", late.version(2, 5), 0, "000000");
        are("with it", late.version(2, 4), 1, "004000");
    }

    private static void demandsOfVersions() {
        Told told = new Told().version(0, 2).version(0, 1).version(1, 5).version(1, 4)
                .wants(0, 2, 1, 5, 5);
        are("of one that isn't given", told, 1, "000000");
        are("of one that is given", told.houseWants(0, 1, 9), 1, "250000");
        are("the other name is barred", told.wants(1, 5, 2, 1, 9), 1, "100000");
        are("the third name", told.version(2, 8), 1, "258000");
        are("of a version that isn't there", told.wants(0, 9, 5, 1, 1), 1, "258000");
        are("told before the version is",
                new Told().wants(3, 6, 4, 2, 3).houseWants(3, 6, 6).version(4, 3).version(4, 2)
                        .version(3, 6), 1, "000630");
    }

    private static void orderOfChoices() {
        // None comes first for name 0, though that needs more of name 1.
        Told told = new Told().version(0, 9).version(1, 9).version(1, 1).houseWants(1, 1, 9)
                .wants(1, 9, 0, 9, 9);
        are("name 0 counts most", told, 1, "010000");
        Told both = new Told().version(0, 1).version(0, 2).version(1, 1).version(1, 2)
                .houseWants(0, 1, 9).houseWants(1, 1, 9).wants(0, 2, 1, 1, 1);
        are("name 0 has its greatest first", both, 1, "210000");
        Told last = new Told();
        for (int name = 0; name < 6; name++) {
            last.version(name, 1).version(name, 2).houseWants(name, 1, 9);
        }
        are("the greatest of all", last, 1, "222222");
        for (int name = 0; name < 6; name++) {
            last.houseWants(name, 1, 1);
        }
        are("the least of all, the last choice", last, 1, "111111");
    }

    private static void ranges() {
        Told all = new Told().version(1, 1).version(1, 5).version(1, 9);
        are("1 to 9", all.houseWants(1, 1, 9), 1, "090000");
        are("5 to 5", new Told().version(1, 5).houseWants(1, 5, 5), 1, "050000");
        are("0 to 4", new Told().version(1, 4).version(1, 5).houseWants(1, 0, 4), 1, "040000");
        are("0 to 0: none is no version", new Told().version(1, 1).houseWants(1, 0, 0), 0,
                "000000");
        are("0 to 9: none is no version", new Told().houseWants(1, 0, 9), 0, "000000");
        are("6 to 5", new Told().version(1, 5).version(1, 6).houseWants(1, 6, 5), 0, "000000");
        are("below the range", new Told().version(1, 3).houseWants(1, 4, 9), 0, "000000");
        are("above the range", new Told().version(1, 9).houseWants(1, 1, 8), 0, "000000");
    }

    private static void demandsOnItself() {
        Told told = new Told().version(2, 7).version(2, 3).houseWants(2, 1, 9)
                .wants(2, 7, 2, 3, 3);
        are("a version that wants another of its name", told, 1, "003000");
        are("a version that wants itself", told.wants(2, 3, 2, 3, 3), 1, "003000");
        Told ring = new Told().version(0, 1).version(1, 1).wants(0, 1, 1, 1, 1)
                .wants(1, 1, 0, 1, 1).houseWants(1, 1, 1);
        are("two that want each other", ring, 1, "110000");
    }

    private static void noGoodChoice() {
        Told told = new Told().version(0, 1).version(1, 1).houseWants(0, 1, 1)
                .wants(0, 1, 1, 2, 9);
        are("the only one can't be kept", told, 0, "000000");
        are("one more makes it good", told.version(1, 2), 1, "120000");
    }

    private static void notTried() {
        // 10 * 10 * 10 * 5 are 5000.
        Told told = new Told();
        for (int version = 1; version <= 9; version++) {
            told.version(0, version).version(1, version).version(2, version);
        }
        for (int version = 1; version <= 4; version++) {
            told.version(3, version).version(3, version);
        }
        told.houseWants(0, 1, 1).houseWants(1, 1, 1).houseWants(2, 1, 1).houseWants(3, 1, 1);
        are("5000 choices, the last is good", told, 1, "111100");
        are("a version again", told.version(3, 4).version(0, 9), 1, "111100");
        are("a demand makes no choice more", told.wants(3, 9, 0, 9, 9), 1, "111100");
        are("6000 choices", told.version(3, 5), -1, "000000");

        Told most = new Told().houseWants(0, 1, 9);
        for (int name = 0; name < 6; name++) {
            for (int version = 1; version <= 9; version++) {
                most.version(name, version);
            }
        }
        are("a million choices", most, -1, "000000");

        // 7 * 8 * 9 * 10 are 5040, the least number of choices above 5000.
        Told near = new Told();
        for (int version = 1; version <= 9; version++) {
            near.version(1, Math.min(version, 6)).version(2, Math.min(version, 7));
            near.version(4, version);
        }
        for (int version = 1; version <= 7; version++) {
            near.version(5, version);
        }
        are("4480 choices", near.houseWants(5, 1, 8), 1, "000007");
        are("5040 choices", near.version(5, 8), -1, "000000");
    }

    private static void noSuchName() {
        PlainBuilder x = new Told().version(0, 1).houseWants(0, 1, 1).version(5, 2)
                .houseWants(5, 2, 2).builder;
        int[] none = {-1, 6, 7, Integer.MIN_VALUE, Integer.MAX_VALUE};
        for (int name : none) {
            due.is("chosen(" + name + ")", x.chosen(name), 0);
        }
        due.is("chosen(5)", x.chosen(5), 2);
    }

    /** Digits of a number below 0 are none above 0, so no version is in such a range. */
    private static void negativeDemand() {
        Told told = new Told().version(0, 1).version(0, 9).version(1, 4);
        are("of a version that isn't given", told.event(11, 1, 4, -19), 1, "000000");
        are("of the house", told.event(11, 0, 0, -91), 0, "000000");
    }
}
