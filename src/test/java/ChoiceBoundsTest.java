/**
 * The bounds of promises 6 and 7 and of the NAMES in Terms. Each method stands for the words of
 * the document above it.
 */
public final class ChoiceBoundsTest {
    private static final Due due = new Due();

    public static void main(String[] args) {
        leastAndMostNameAndVersion();
        versionsAgain();
        everyRange();
        everyRangeOfAVersion();
        demandsBelow0();
        theHouse();
        demandsOfVersionsThatAreGiven();
        versionsOrNone();
        noneFirstThenTheGreatest();
        name0CountsMost();
        moreThan5000();
        moreThan5000InEveryOrder();
        countedByVersionsAlone();
        noneIsGood();
        ofNoName();
        fullOfDemands();
        due.end("ChoiceBoundsTest");
    }

    /** Six digits: the versions that names 0 to 5 are given. */
    private static void are(String what, Told told, int solved, String versions) {
        due.is(what + ": solve()", told.builder.solve(), solved);
        for (int name = 0; name < 6; name++) {
            due.is(what + ": chosen(" + name + ")", told.builder.chosen(name),
                    versions.charAt(name) - '0');
        }
    }

    private static String only(int name, int version) {
        StringBuilder all = new StringBuilder("000000");
        all.setCharAt(name, (char) ('0' + version));
        return all.toString();
    }

    /** "NAMES 0 .. 5 with VERSIONS 1 .. 9: 10 NAME a has VERSION b" */
    private static void leastAndMostNameAndVersion() {
        for (int name = 0; name < 6; name++) {
            for (int version = 1; version <= 9; version++) {
                Told told = new Told().houseWants(name, version, version);
                for (int other = 1; other <= 9; other++) {
                    if (other != version) {
                        told.version(name, other);
                    }
                }
                are("all versions but " + version, told, 0, "000000");
                are("all versions", told.version(name, version), 1, only(name, version));
            }
        }
    }

    /** "(again, too)": it is still one VERSION, and one CHOICE */
    private static void versionsAgain() {
        Told told = new Told().houseWants(3, 1, 9);
        for (int i = 0; i < 199; i++) {
            told.version(3, 1 + i % 2);
        }
        are("two versions told 199 times", told, 1, only(3, 2));
    }

    /** "in a VERSION from c / 10 % 10 to c % 10", of the house */
    private static void everyRange() {
        for (int least = 0; least <= 9; least++) {
            for (int most = 0; most <= 9; most++) {
                for (int version = 1; version <= 9; version++) {
                    boolean kept = least <= version && version <= most;
                    Told told = new Told().version(4, version).houseWants(4, least, most);
                    are(version + " in " + least + " to " + most, told, kept ? 1 : 0,
                            kept ? only(4, version) : "000000");
                }
                Told all = new Told().houseWants(5, least, most);
                for (int version = 1; version <= 9; version++) {
                    all.version(5, version);
                }
                boolean some = most >= 1 && least <= most;
                are("the greatest in " + least + " to " + most, all, some ? 1 : 0,
                        some ? only(5, most) : "000000");
            }
        }
    }

    /** The same range, wanted by a VERSION that is given; without it the range is no matter. */
    private static void everyRangeOfAVersion() {
        for (int range = 0; range < 100; range++) {
            for (int version = 1; version <= 9; version++) {
                boolean kept = range / 10 <= version && version <= range % 10;
                Told told = new Told().version(0, 9).version(0, 8).version(5, version)
                        .houseWants(0, 8, 9).event(11, 0, 9, 500 + range);
                are(version + " in " + range, told, 1, kept ? "90000" + version : "800000");
            }
        }
    }

    /** c / 100 is 0 for - 99 .. - 1, and the range that it tells has no VERSION. */
    private static void demandsBelow0() {
        for (int c = -99; c <= -1; c++) {
            Told told = new Told().houseWants(1, 1, 9).version(1, 9).version(1, 1);
            for (int version = 1; version <= 9; version++) {
                told.version(0, version);
            }
            are("by a version, " + c, told.event(11, 1, 9, c), 1, "010000");
            are("by the house, " + c, told.event(11, 0, 0, c), 0, "000000");
        }
    }

    /** "b 0: the house; a is 0 then": the house is no VERSION, its DEMANDS always count */
    private static void theHouse() {
        Told told = new Told().version(0, 5).version(1, 6).houseWants(1, 6, 6);
        are("name 0 is not given", told, 1, "060000");
        due.is("no house of name 1", told.builder.event(11, 1, 0, 11), -2);
        are("refused", told, 1, "060000");
        are("of no name", new Told().houseWants(0, 0, 9), 0, "000000");
    }

    /** "each DEMAND of the house, and of each VERSION that is given, is kept" */
    private static void demandsOfVersionsThatAreGiven() {
        for (int name = 0; name < 6; name++) {
            int other = (name + 1) % 6;
            Told told = new Told().version(name, 1).version(name, 9).wants(name, 9, other, 1, 9);
            are("none is given", told, 1, "000000");
            are("the one that wants nothing", told.houseWants(name, 1, 9), 1, only(name, 1));
            are("only the other one will do", told.houseWants(name, 9, 9), 0, "000000");
            StringBuilder both = new StringBuilder(only(name, 9));
            both.setCharAt(other, '5');
            are("what it wants is there", told.version(other, 5), 1, both.toString());
            are("that wants what isn't", told.wants(other, 5, other, 6, 9), 0, "000000");
        }
    }

    /** "gives each NAME one of its VERSIONS, or none" */
    private static void versionsOrNone() {
        for (int name = 0; name < 6; name++) {
            are("no version", new Told().houseWants(name, 0, 9), 0, "000000");
            are("another name's", new Told().houseWants(name, 1, 9).version((name + 1) % 6, 5), 0,
                    "000000");
            are("one version", new Told().houseWants(name, 1, 9).version(name, 5), 1,
                    only(name, 5));
            are("not wanted", new Told().version(name, 5), 1, "000000");
        }
    }

    /** "none comes first, then the greatest VERSION down to the least" */
    private static void noneFirstThenTheGreatest() {
        Told told = new Told();
        for (int version = 1; version <= 9; version++) {
            told.version(2, version);
        }
        are("none", told, 1, "000000");
        told.houseWants(2, 1, 9);
        // Each version in turn is barred by a demand that nothing keeps.
        for (int version = 9; version >= 1; version--) {
            are("the greatest that is left", told, 1, only(2, version));
            told.wants(2, version, 5, 1, 9);
        }
        are("none is left", told, 0, "000000");
    }

    /** "NAME 0 counts most, then 1 and so on" */
    private static void name0CountsMost() {
        for (int first = 0; first < 5; first++) {
            int second = first + 1;
            // 2 of the one bars 2 of the other, so either may have 2 but not both.
            Told told = new Told().version(first, 1).version(first, 2).version(second, 1)
                    .version(second, 2).houseWants(first, 1, 2).houseWants(second, 1, 2)
                    .wants(first, 2, second, 1, 1);
            StringBuilder want = new StringBuilder("000000");
            want.setCharAt(first, '2');
            want.setCharAt(second, '1');
            are(first + " counts more than " + second, told, 1, want.toString());
        }
        for (int first = 0; first < 4; first++) {
            int second = first + 1;
            // One of the two has to be given: the choice without the first one comes earlier.
            Told told = new Told().version(first, 9).version(second, 9).version(5, 1)
                    .version(5, 2).houseWants(5, 1, 2).wants(5, 2, first, 9, 9)
                    .wants(5, 1, second, 9, 9);
            StringBuilder want = new StringBuilder("000001");
            want.setCharAt(second, '9');
            are("none of " + first + " counts more than 2 of 5", told, 1, want.toString());
        }
    }

    /** "with more than 5000 they are NOT TRIED" */
    private static void moreThan5000() {
        are("5000", house(10, 10, 10, 5, 1, 1), 1, "111100");
        are("5040", house(10, 9, 8, 7, 1, 1), -1, "000000");
        are("4900", house(10, 10, 7, 7, 1, 1), 1, "111100");
        are("5000 otherwise", house(5, 5, 5, 5, 4, 2), 1, "111111");
        are("5120", house(4, 4, 4, 4, 4, 5), -1, "000000");
        are("4096", house(4, 4, 4, 4, 4, 4), 1, "111111");
        are("5103", house(9, 9, 9, 7, 1, 1), -1, "000000");
        are("a million", house(10, 10, 10, 10, 10, 10), -1, "000000");
        Told two = house(10, 10, 10, 5, 1, 1);
        are("from 5000", two, 1, "111100");
        are("to 10000", two.version(5, 1), -1, "000000");
        are("and no way back", two.version(5, 1), -1, "000000");
    }

    /** Names 0 to 5 with one version fewer than these numbers; the house wants the least. */
    private static Told house(int... ways) {
        Told told = new Told();
        for (int name = 0; name < 6; name++) {
            for (int version = 1; version < ways[name]; version++) {
                told.version(name, version);
            }
            if (ways[name] > 1) {
                told.houseWants(name, 1, 1);
            }
        }
        return told;
    }

    /** "the product, over all NAMES": it is the same whichever NAMES have the VERSIONS */
    private static void moreThan5000InEveryOrder() {
        int[] inside = {10, 10, 10, 5, 1, 1};
        int[] outside = {10, 9, 8, 7, 1, 1};
        for (int turn = 0; turn < 6; turn++) {
            int[] in = new int[6];
            int[] out = new int[6];
            StringBuilder want = new StringBuilder();
            for (int name = 0; name < 6; name++) {
                in[name] = inside[(name + turn) % 6];
                out[name] = outside[(name + turn) % 6];
                want.append(in[name] > 1 ? '1' : '0');
            }
            are("5000, turned by " + turn, house(in), 1, want.toString());
            are("5040, turned by " + turn, house(out), -1, "000000");
        }
    }

    /** "of how many VERSIONS each has and one": DEMANDS and VERSIONS told again make none more */
    private static void countedByVersionsAlone() {
        Told told = house(10, 10, 10, 5, 1, 1);
        for (int i = 0; i < 100; i++) {
            told.version(i % 3, 1 + i % 9).wants(5, 1 + i % 9, 5, 1, 1);
            if (told.count() > 190) {
                break;
            }
        }
        are("5000 still", told, 1, "111100");
        Told free = new Told();
        for (int version = 1; version <= 9; version++) {
            free.version(0, version).version(1, version).version(2, version).version(3, version);
        }
        are("10000, though none of all would be good", free, -1, "000000");
    }

    /** "0: there is none" */
    private static void noneIsGood() {
        are("5000, none is good", house(10, 10, 10, 5, 1, 1).houseWants(0, 2, 9), 0, "000000");
        are("1, not good", new Told().houseWants(5, 1, 9), 0, "000000");
        are("1, good", new Told(), 1, "000000");
        are("5040, none would be good", house(10, 9, 8, 7, 1, 1).houseWants(0, 2, 9), -1,
                "000000");
    }

    /** "0 for none, without such a CHOICE, when they are NOT TRIED, and of no NAME" */
    private static void ofNoName() {
        Told told = new Told();
        for (int name = 0; name < 6; name++) {
            told.version(name, 7).houseWants(name, 7, 7);
        }
        are("all are given", told, 1, "777777");
        int[] none = {-1, -2, -6, 6, 7, 12, 256, Integer.MIN_VALUE, Integer.MAX_VALUE};
        for (int name : none) {
            due.is("chosen(" + name + ")", told.builder.chosen(name), 0);
        }
        told.houseWants(0, 8, 8);
        are("without a good one", told, 0, "000000");
    }

    /** 200 EVENTS, all but six of which are DEMANDS */
    private static void fullOfDemands() {
        Told told = new Told();
        for (int name = 0; name < 6; name++) {
            told.version(name, 4);
        }
        while (told.count() < 199) {
            told.houseWants(told.count() % 6, 4, 4 + told.count() % 6);
        }
        are("all are kept", told, 1, "444444");
        are("the last of 200 isn't", told.houseWants(3, 5, 9), 0, "000000");
    }
}
