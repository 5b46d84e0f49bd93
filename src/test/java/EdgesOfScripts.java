/** The edges of promises 26 and 27: scripts and simulations at their least and at their most. */
final class EdgesOfScripts {
    private static final Class<IllegalArgumentException> BAD_ARGUMENT = IllegalArgumentException.class;
    private static final int NONE = HarvestBoxes.NONE;
    private static final int MIN = Integer.MIN_VALUE;
    private static final int MAX = Integer.MAX_VALUE;
    private static final int GROUPS = 10000;
    private static final long[] MOST_DIGITS = {9999L, 9999_9999L, 9999_9999_9999L, 9999_9999_9999_9999L};
    private static final long FACTOR = 6364136223846793005L;
    private static final long STEP = 1442695040888963407L;
    private static final int[] NO_WEEKS = {0, 31, -1, MIN, MAX};
    private static final long[] SEEDS = {0, 1, -1, Long.MAX_VALUE, Long.MIN_VALUE, 1L << 33, -(1L << 31)};

    private EdgesOfScripts() {
    }

    static void all() {
        scripts();
        commands();
        Doc.edge("The commands 1 to 6 fail if the method would throw an exception;", EdgesOfScripts::asTheMethods);
        Doc.edge("commands with houses or vegetables that do not exist fail,", EdgesOfScripts::notThere);
        Doc.edge("and so does any other group", EdgesOfScripts::otherGroups);
        Doc.edge("(also one with another digit where a 0 is written).", EdgesOfScripts::otherDigits);
        Doc.edge("xy is a decimal number.", EdgesOfScripts::decimalNumbers);
        simulations();
    }

    private static void scripts() {
        Doc.in("Promise 26");
        Doc.edge("`int runScript(int n, long script) throws IllegalArgumentException`: Runs a script on a copy of the state.",
                EdgesOfScripts::onACopy);
        Doc.edge("A script has 1 to 4 commands;", EdgesOfScripts::oneToFour);
        Doc.edge("each is a group of four decimal digits d1 to d4, and the first command is the highest group of the number",
                EdgesOfScripts::highestFirst);
        Doc.edge("(with zeros before it, if it has fewer digits).", EdgesOfScripts::zerosBefore);
        Doc.edge("- `n`: number of commands, 1 to 4", EdgesOfScripts::numbersOfCommands);
        Doc.edge("- `script`: the commands, a number of at most 4 * n digits (0 or more)", EdgesOfScripts::numbersOfDigits);
        Doc.edge("Returns the index, from 0, of the first command that fails;", EdgesOfScripts::firstThatFails);
        Doc.edge("NONE if all succeed.", EdgesOfScripts::noneFails);
        Doc.edge("Throws `IllegalArgumentException` if n is out of range, or if script is negative or has more than 4 * n digits",
                EdgesOfScripts::badScripts);
    }

    private static void commands() {
        Doc.edge("1 v x y: setHarvest(v, xy).", EdgesOfScripts::harvests);
        Doc.edge("2 h v n: setLiking(h, v, n).", EdgesOfScripts::likings);
        Doc.edge("3 h i 0: skip(h, i is 1) (i is 0 or 1).", EdgesOfScripts::skips);
        Doc.edge("4 0 0 0: pack().", EdgesOfScripts::packs);
        Doc.edge("5 h n 0: returnCrates(h, n).", EdgesOfScripts::crates);
        Doc.edge("6 h v n: give(h, v, n).", EdgesOfScripts::given);
        Doc.edge("7 h x y: succeeds if the happiness of the house h is at least xy.", EdgesOfScripts::happyEnough);
        Doc.edge("8 h v n: succeeds if the box of the house h has at least n kilos of the vegetable v.",
                EdgesOfScripts::fullEnough);
        Doc.edge("9 n 0 0: succeeds if at least n houses would get a box next week.", EdgesOfScripts::boxesEnough);
    }

    private static void simulations() {
        Doc.in("Promise 27");
        Doc.edge("`int simulate(long seed, int m) throws IllegalArgumentException`: Simulates m weeks on a copy of the state.",
                EdgesOfScripts::weeksOnACopy);
        Doc.edge("A long x starts as the seed.", EdgesOfScripts::startsAsTheSeed);
        Doc.edge("In each week, for each vegetable, ascending, x is first replaced by x * 6364136223846793005L + "
                + "1442695040888963407L (with long overflow), r = (int) (x >>> 33) is computed, and its harvest becomes r % 20;",
                EdgesOfScripts::drawnHarvests);
        Doc.edge("then, for each house, ascending, x is replaced so again, and r is computed again: if r % 4 is 0, the house skips "
                + "this week, otherwise it does not;", EdgesOfScripts::drawnSkips);
        Doc.edge("if r % 4 is 1, it returns all crates that it owes.", EdgesOfScripts::drawnReturns);
        Doc.edge("Then the week is packed.", EdgesOfScripts::eachWeekIsPacked);
        Doc.edge("- `seed`: any long", EdgesOfScripts::anySeed);
        Doc.edge("- `m`: number of weeks, 1 to 30", EdgesOfScripts::numbersOfWeeks);
        Doc.edge("Returns 1000 * (the kilos that were composted in these weeks, or 999 if there are more)",
                EdgesOfScripts::compostedKilos);
        Doc.edge("+ (the swaps that were made in them, or 999 if there are more).", EdgesOfScripts::madeSwaps);
        Doc.edge("Throws `IllegalArgumentException` if m is out of range", EdgesOfScripts::weeksOutOfRange);
    }

    private static void script(HarvestBoxes x, int n, long script, int due) {
        Check.same("runScript(" + n + ", " + script + ")", x.runScript(n, script), due);
    }

    /** Two houses; house 0 has 5 and 7 kilos and owes a crate, house 1 has nothing and owes 4. */
    private static HarvestBoxes someFarm() {
        HarvestBoxes x = Check.farm("Fh10h24v05v07");
        x.pack();
        return x;
    }

    private static void succeed(HarvestBoxes x, int... groups) {
        for (int group : groups) {
            script(x, 1, group, NONE);
        }
    }

    private static void fail(HarvestBoxes x, int... groups) {
        for (int group : groups) {
            script(x, 1, group, 0);
        }
    }

    private static void onACopy() {
        HarvestBoxes x = someFarm();
        for (int times = 0; times < 3; times++) {
            script(x, 4, 6005_8000_6011_5010L, NONE);
            script(x, 2, 6005_8001L, 1);
            script(x, 2, 5010_5010L, 1);
        }
        HarvestBoxes credit = Check.farm("Fh10h10v00s0");
        credit.pack();
        // Two and one parts of six kilos, with the credit that there is.
        script(credit, 3, 1006_4000_8004L, NONE);
        script(credit, 3, 1006_4000_8005L, 2);
        Twins.keepAlways("each command", y -> {
            y.runScript(4, 1040_2009_3010_4000L);
            y.runScript(4, 5010_6001_6011_4000L);
            y.runScript(4, 7000_8000_9000_3000L);
        });
    }

    private static void oneToFour() {
        HarvestBoxes x = new HarvestBoxes();
        script(x, 1, 4000L, NONE);
        script(x, 2, 4000_4000L, NONE);
        script(x, 3, 4000_4000_4000L, NONE);
        script(x, 4, 4000_4000_4000_4000L, NONE);
        Check.fails("no command", BAD_ARGUMENT, () -> x.runScript(0, 0));
        Check.fails("five commands", BAD_ARGUMENT, () -> x.runScript(5, 4000_4000_4000_4000L));
    }

    private static void highestFirst() {
        HarvestBoxes x = Check.farm("Fh10v07");
        script(x, 2, 4000_8007L, NONE);
        script(x, 2, 8007_4000L, 0);
        script(x, 4, 4000_8007_6007_8000L, NONE);
        script(x, 4, 4000_6007_8007_8000L, 2);
        script(x, 4, 1009_4000_8009_6009L, NONE);
        script(x, 4, 4000_1009_8008_6009L, 2);
    }

    private static void zerosBefore() {
        HarvestBoxes x = new HarvestBoxes();
        script(x, 1, 0L, 0);
        script(x, 1, 400L, 0);
        script(x, 2, 4000L, 0);
        script(x, 3, 4000_4000L, 0);
        script(x, 4, 4000_4000_4000L, 0);
        script(x, 4, 400_4000_4000_4000L, 0);
        script(x, 4, 0L, 0);
        // The groups behind the first one have zeros too: 4000 and 0900.
        script(x, 2, 4000_0900L, 1);
    }

    private static void numbersOfCommands() {
        HarvestBoxes x = new HarvestBoxes();
        script(x, 1, 9000L, NONE);
        script(x, 4, 9000_9000_9000_9000L, NONE);
        Twins.refuseAlways("runScript(0, 0)", BAD_ARGUMENT, y -> y.runScript(0, 0L));
        Twins.refuseAlways("runScript(5, 0)", BAD_ARGUMENT, y -> y.runScript(5, 0L));
    }

    private static void numbersOfDigits() {
        HarvestBoxes x = new HarvestBoxes();
        for (int n = 1; n <= 4; n++) {
            int commands = n;
            script(x, n, 0L, 0);
            script(x, n, MOST_DIGITS[n - 1], 0);
            Check.fails("a digit more than " + 4 * n, BAD_ARGUMENT, () -> x.runScript(commands, MOST_DIGITS[commands - 1] + 1));
            Check.fails("less than 0", BAD_ARGUMENT, () -> x.runScript(commands, -1L));
        }
    }

    private static void firstThatFails() {
        HarvestBoxes x = new HarvestBoxes();
        script(x, 4, 0L, 0);
        script(x, 4, 4000_0000_0000_0000L, 1);
        script(x, 4, 4000_4000_0000_0000L, 2);
        script(x, 4, 4000_4000_4000_0000L, 3);
        script(x, 4, 4000_0000_4000_0000L, 1);
        script(x, 4, 1_4000_4000_4000L, 0);
    }

    private static void noneFails() {
        HarvestBoxes x = new HarvestBoxes();
        script(x, 1, 4000L, NONE);
        script(x, 4, 4000_9000_4000_9000L, NONE);
        script(Twins.full(), 4, 1440_2549_3500_4000L, NONE);
    }

    private static void badScripts() {
        for (int n : new int[] {0, 5, -1, MIN, MAX}) {
            Twins.refuseAlways("runScript(" + n + ", 4000)", BAD_ARGUMENT, x -> x.runScript(n, 4000L));
        }
        for (int n = 1; n <= 4; n++) {
            int commands = n;
            for (long script : new long[] {-1, Long.MIN_VALUE, -4000, MOST_DIGITS[n - 1] + 1, Long.MAX_VALUE}) {
                Twins.refuse(Twins::full, "runScript(" + n + ", " + script + ")", BAD_ARGUMENT, x -> x.runScript(commands, script));
            }
        }
        Twins.refuse(Twins::some, "both out of range", BAD_ARGUMENT, x -> x.runScript(0, -1L));
    }

    private static void harvests() {
        HarvestBoxes x = Check.farm("Fh10v07v07v07v07v07l001l040");
        succeed(x, 1000, 1001, 1009, 1010, 1039, 1040, 1440, 1400);
        fail(x, 1041, 1099, 1441, 1050, 1500, 1900);
        // With a liking of 1 a kilo is a happiness of 1.
        script(Check.farm("Fh10v07l001"), 3, 1040_4000_7040L, NONE);
        script(Check.farm("Fh10v07l001"), 3, 1040_4000_7041L, 2);
        script(Check.farm("Fh10v07l001"), 3, 1000_4000_7001L, 2);
        script(Check.farm("Fh10v07v07l000l011"), 3, 1140_4000_7040L, NONE);
    }

    private static void likings() {
        HarvestBoxes x = Twins.full();
        succeed(x, 2000, 2009, 2049, 2500, 2549, 2540);
        fail(x, 2050, 2090, 2600, 2649, 2999);
        HarvestBoxes kilo = Check.farm("Fh10h10v00v01l000l010l100l115");
        script(kilo, 3, 2119_4000_7109L, NONE);
        script(kilo, 3, 2118_4000_7109L, 2);
        script(kilo, 3, 2110_4000_8111L, 2);
        HarvestBoxes seven = Check.farm("Fh10h13v00v07");
        script(seven, 3, 2019_4000_7063L, NONE);
        script(seven, 3, 2019_4000_7064L, 2);
        script(seven, 3, 2109_4000_7036L, 2);
    }

    private static void skips() {
        HarvestBoxes x = Check.farm("Fh10h10h10h10h10h10s5");
        succeed(x, 3000, 3010, 3500, 3510);
        fail(x, 3020, 3090, 3520, 3001, 3011, 3600, 3610, 3900);
        script(x, 2, 3010_9500L, 1);
        script(x, 2, 3010_9400L, NONE);
        script(x, 2, 3500_9600L, NONE);
        script(x, 2, 3000_9600L, 1);
        script(x, 3, 3010_3000_9500L, NONE);
        script(x, 2, 3510_9500L, NONE);
    }

    private static void packs() {
        HarvestBoxes x = Check.farm("Fh10v07");
        succeed(x, 4000);
        fail(x, 4001, 4010, 4100, 4009, 4090, 4900, 4111, 4999);
        script(x, 4, 4000_8007_4000_8000L, NONE);
        script(x, 4, 4000_8007_4000_8001L, 3);
        script(x, 4, 4000_4000_4000_9100L, 3);
        script(x, 4, 4000_4000_9100_4000L, NONE);
        succeed(new HarvestBoxes(), 4000);
    }

    private static void crates() {
        HarvestBoxes x = Check.farm("Fh19h10h11h10h10h19");
        succeed(x, 5010, 5090, 5210, 5510, 5590);
        fail(x, 5000, 5100, 5110, 5220, 5500, 5610, 5910, 5011, 5019, 5091);
        script(x, 2, 5090_5010L, 1);
        script(x, 2, 5080_5010L, NONE);
        script(x, 2, 5060_9500L, 1);
        script(x, 2, 5070_9500L, NONE);
    }

    private static void given() {
        HarvestBoxes x = someFarm();
        succeed(x, 6001, 6005, 6011, 6017);
        fail(x, 6000, 6010, 6006, 6018, 6009, 6101, 6111, 6020, 6021, 6201, 6901);
        script(x, 2, 6005_6001L, 1);
        script(x, 2, 6004_6001L, NONE);
        script(x, 2, 6004_8001L, NONE);
        script(x, 2, 6004_8002L, 1);
        HarvestBoxes last = Check.farm("Fh10h10h10h10h10h10v00v00v00v00v06");
        last.pack();
        succeed(last, 6541);
        fail(last, 6540, 6542, 6551, 6641, 6531);
        script(last, 2, 6541_8541L, 1);
        script(last, 2, 6541_8441L, NONE);
        script(last, 2, 6541_6541L, 1);
    }

    private static void happyEnough() {
        HarvestBoxes x = someFarm();
        succeed(x, 7000, 7001, 7059, 7060, 7100);
        fail(x, 7061, 7070, 7099, 7101, 7110, 7200, 7900);
        HarvestBoxes happy = Check.farm("Fh10v11l009");
        happy.pack();
        succeed(happy, 7098, 7099);
        happy.give(0, 0, 1);
        succeed(happy, 7090);
        fail(happy, 7091, 7099);
    }

    private static void fullEnough() {
        HarvestBoxes x = someFarm();
        succeed(x, 8000, 8001, 8005, 8010, 8017, 8100, 8110);
        fail(x, 8006, 8009, 8018, 8101, 8111, 8020, 8120, 8200, 8210, 8900, 8090);
        HarvestBoxes last = Check.farm("Fh13h13h13h13h13h10v00v00v00v00v40");
        last.pack();
        succeed(last, 8549, 8540, 8530, 8440);
        fail(last, 8531, 8441, 8550, 8640);
    }

    private static void boxesEnough() {
        HarvestBoxes six = Check.farm("Fh10h10h10h10h10h12");
        succeed(six, 9000, 9100, 9500, 9600);
        fail(six, 9700, 9800, 9900, 9601, 9610, 9001, 9010, 9009, 9090);
        HarvestBoxes none = new HarvestBoxes();
        succeed(none, 9000);
        fail(none, 9100, 9900);
        HarvestBoxes x = Check.farm("Fh10h13h10s2");
        succeed(x, 9000, 9100);
        fail(x, 9200, 9300);
    }

    private static boolean throwsNothing(Runnable call) {
        return Check.nameOfThrown(call).equals("nothing");
    }

    /** Whether the method itself would take it, for the groups that stand for one of the methods. */
    private static boolean methodTakes(HarvestBoxes x, int d1, int d2, int d3, int d4) {
        switch (d1) {
            case 1: return throwsNothing(() -> x.setHarvest(d2, 10 * d3 + d4));
            case 2: return throwsNothing(() -> x.setLiking(d2, d3, d4));
            case 3: return d3 <= 1 && d4 == 0 && throwsNothing(() -> x.skip(d2, d3 == 1));
            case 4: return d2 == 0 && d3 == 0 && d4 == 0 && throwsNothing(() -> x.pack());
            case 5: return d4 == 0 && throwsNothing(() -> x.returnCrates(d2, d3));
            default: return throwsNothing(() -> x.give(d2, d3, d4));
        }
    }

    private static void asTheMethods() {
        for (int group = 1000; group < 7000; group++) {
            HarvestBoxes x = someFarm();
            int answer = x.runScript(1, group);
            boolean takes = methodTakes(x, group / 1000, group / 100 % 10, group / 10 % 10, group % 10);
            Check.same("group " + group, answer, takes ? NONE : 0);
        }
        HarvestBoxes nothing = new HarvestBoxes();
        fail(nothing, 1000, 2000, 3000, 5010, 6001);
    }

    private static void notThere() {
        HarvestBoxes nothing = new HarvestBoxes();
        fail(nothing, 1000, 2005, 3000, 3010, 5010, 6001, 7000, 8000);
        HarvestBoxes houses = Check.farm("Fh11h11");
        succeed(houses, 3100, 5110, 7100);
        fail(houses, 1000, 2000, 6001, 8000, 3200, 5210, 7200, 2200, 8200);
        HarvestBoxes vegetables = Check.farm("Fv00v00");
        succeed(vegetables, 1100);
        fail(vegetables, 1200, 2000, 3000, 5010, 6001, 7000, 8000);
        HarvestBoxes full = Check.farm(Twins.FULL_TEXT);
        succeed(full, 1400, 2540, 3500, 7500, 8540, 8500);
        fail(full, 1500, 2550, 2640, 3600, 5610, 6641, 6551, 7600, 8550, 8640);
    }

    private static void otherGroups() {
        HarvestBoxes x = someFarm();
        fail(x, 0, 1, 9, 10, 90, 100, 140, 400, 500, 900, 999);
        int taken = 0;
        for (int group = 0; group < GROUPS; group++) {
            // An object answers no more than 512 calls.
            x = group % 400 == 0 ? someFarm() : x;
            taken += x.runScript(1, group) == NONE ? 1 : 0;
        }
        // 2 * 41 harvests, 4 * 10 likings, 2 * 2 marks, a week, 1 + 4 crates, 5 + 7 kilos that are given, 61 + 1 of
        // happiness, 6 + 8 + 1 + 1 kilos that are there, 0 or 1 box.
        Check.same("groups that succeed", taken, 82 + 40 + 4 + 1 + 5 + 12 + 62 + 16 + 2);
    }

    private static void otherDigits() {
        HarvestBoxes x = Check.farm("Fh19h19v40");
        for (int digit = 1; digit <= 9; digit++) {
            fail(x, 3000 + digit, 3010 + digit, 4000 + digit, 4000 + 10 * digit, 4000 + 100 * digit, 5010 + digit);
            fail(x, 9000 + digit, 9000 + 10 * digit);
        }
        succeed(x, 3000, 3010, 4000, 5010, 9000);
    }

    private static void decimalNumbers() {
        HarvestBoxes x = Check.farm("Fh10v07l001");
        script(x, 3, 1012_4000_7012L, NONE);
        script(x, 3, 1012_4000_7013L, 2);
        script(x, 3, 1021_4000_7021L, NONE);
        script(x, 3, 1021_4000_7022L, 2);
        script(x, 3, 1008_4000_7008L, NONE);
        script(x, 3, 1030_4000_7031L, 2);
    }

    private static long next(long x) {
        return x * FACTOR + STEP;
    }

    private static int drawn(long x) {
        return (int) (x >>> 33);
    }

    /** What simulate promises, done by the actions. */
    private static int byActions(HarvestBoxes x, long seed, int m) {
        int houses = x.about(0);
        int vegetables = x.about(1);
        int composted = -x.about(6);
        int swaps = 0;
        long state = seed;
        for (int week = 0; week < m; week++) {
            for (int v = 0; v < vegetables; v++) {
                state = next(state);
                x.setHarvest(v, drawn(state) % 20);
            }
            for (int h = 0; h < houses; h++) {
                state = next(state);
                x.skip(h, drawn(state) % 4 == 0);
                int owed = drawn(state) % 4 == 1 ? x.house(h, 1) : 0;
                if (owed > 0) {
                    x.returnCrates(h, owed);
                }
            }
            swaps += x.pack();
        }
        composted += x.about(6);
        return 1000 * Math.min(999, composted) + Math.min(999, swaps);
    }

    private static void simulated(String text, long seed, int m) {
        Check.same("simulate(" + seed + ", " + m + ") of " + text, Check.farm(text).simulate(seed, m),
                byActions(Check.farm(text), seed, m));
    }

    private static void weeksOnACopy() {
        HarvestBoxes x = Check.farm("Fh10h20v05v07l009l010l101l118");
        int first = x.simulate(7, 30);
        Check.same("the same again", x.simulate(7, 30), first);
        Check.same("as by the actions", byActions(x, 7, 30), first);
        HarvestBoxes credit = Check.farm("Fh10h10v00l000l100s1");
        credit.pack();
        int composted = credit.simulate(1, 5);
        Check.same("with the credit that there is", byActions(credit, 1, 5), composted);
        Check.same("as it is without that credit, but for a kilo", Check.farm("Fh11h10v00l000l100").simulate(1, 5) + 1000, composted);
        Twins.keepAlways("simulate", y -> y.simulate(7, 30));
    }

    private static void startsAsTheSeed() {
        for (long seed : SEEDS) {
            // Without houses the first harvest is composted.
            Check.same("simulate(" + seed + ", 1)", Check.farm("Fv00").simulate(seed, 1), 1000 * (drawn(next(seed)) % 20));
        }
        HarvestBoxes x = Check.farm("Fv00");
        x.simulate(99, 3);
        Check.same("not where the one before ended", x.simulate(0, 1), 1000 * (drawn(STEP) % 20));
    }

    private static void drawnHarvests() {
        for (long seed : SEEDS) {
            int sum = 0;
            long state = seed;
            for (int draw = 0; draw < 10; draw++) {
                state = next(state);
                sum += drawn(state) % 20;
            }
            Check.same("five vegetables, two weeks", Check.farm("Fv40v40v40v40v40").simulate(seed, 2), 1000 * sum);
        }
        boolean isLeast = false;
        boolean isMost = false;
        for (int seed = 0; seed < 200; seed++) {
            int harvest = Check.farm("Fv00").simulate(seed, 1) / 1000;
            Check.same("the first harvest of seed " + seed, harvest, drawn(next(seed)) % 20);
            isLeast = isLeast || harvest == 0;
            isMost = isMost || harvest == 19;
        }
        Check.holds("harvests of 0 and of 19", isLeast && isMost);
    }

    private static void drawnSkips() {
        boolean[] isSeen = new boolean[4];
        for (int seed = 0; seed < 40; seed++) {
            long ofHarvest = next(seed);
            int fate = drawn(next(ofHarvest)) % 4;
            // All is composted if the only house skips; it skips or not whatever its mark was before.
            int due = fate == 0 ? 1000 * (drawn(ofHarvest) % 20) : 0;
            Check.same("a house, seed " + seed, Check.farm("Fh10v00").simulate(seed, 1), due);
            Check.same("a house with a mark, seed " + seed, Check.farm("Fh10v00s0").simulate(seed, 1), due);
            isSeen[fate] = true;
        }
        Check.holds("each of four was seen", isSeen[0] && isSeen[1] && isSeen[2] && isSeen[3]);
        simulated("Fh10h20h30h40h10h20", 3, 30);
        simulated("Fh10h10h10h10h10h10v00v00l009l010l119l100", 5, 30);
    }

    private static void drawnReturns() {
        boolean isComposted = false;
        boolean isPacked = false;
        for (int seed = 0; seed < 40; seed++) {
            long ofHarvest = next(seed);
            boolean returns = drawn(next(ofHarvest)) % 4 == 1;
            int due = returns ? 0 : 1000 * (drawn(ofHarvest) % 20);
            Check.same("a house that owes 9, seed " + seed, Check.farm("Fh19v00").simulate(seed, 1), due);
            Check.same("a house that owes 3, seed " + seed, Check.farm("Fh13v00").simulate(seed, 1), due);
            isPacked = isPacked || returns;
            isComposted = isComposted || due > 0;
        }
        Check.holds("both were seen", isPacked && isComposted);
        simulated("Fh19h13h12h10v00v00l009l010l101l118", 11, 30);
    }

    private static void eachWeekIsPacked() {
        for (int m = 1; m <= 30; m++) {
            simulated("Fh10h20v05v07l009l010l101l118", 42, m);
            simulated("Fh40h13v40l000l100", -42, m);
        }
        HarvestBoxes x = Check.farm("Fh10h10v40v40l009l010l101l118s1");
        x.pack();
        x.setHarvest(0, 40);
        int answer = x.simulate(9, 20);
        Check.same("from a week that was packed before", byActions(x, 9, 20), answer);
    }

    private static void anySeed() {
        for (long seed : SEEDS) {
            simulated("Fh10h20v05v07l009l010l101l118", seed, 30);
            simulated("Fh10h20h30h40h10h20v05v07v00v01v02l009l010l101l118l229l240", seed, 20);
        }
    }

    private static void numbersOfWeeks() {
        HarvestBoxes x = Check.farm("Fv00");
        Check.same("the least", x.simulate(0, 1), 1000 * (drawn(STEP) % 20));
        long state = 0;
        int sum = 0;
        for (int week = 0; week < 30; week++) {
            state = next(state);
            sum += drawn(state) % 20;
        }
        Check.same("the most", x.simulate(0, 30), 1000 * sum);
        Check.fails("none", BAD_ARGUMENT, () -> x.simulate(0, 0));
        Check.fails("31", BAD_ARGUMENT, () -> x.simulate(0, 31));
        Check.same("nothing for 30 weeks", new HarvestBoxes().simulate(0, 30), 0);
    }

    private static int harvestedBy(long seed, int draws) {
        long state = seed;
        int sum = 0;
        for (int draw = 0; draw < draws; draw++) {
            state = next(state);
            sum += drawn(state) % 20;
        }
        return sum;
    }

    private static void compostedKilos() {
        String five = "Fv40v40v40v40v40";
        for (int kilos = 997; kilos <= 1001; kilos++) {
            long seed = 0;
            while (harvestedBy(seed, 5 * 21) != kilos) {
                seed++;
            }
            Check.same(kilos + " kilos", Check.farm(five).simulate(seed, 21), 1000 * Math.min(999, kilos));
        }
        Check.holds("more than 999 kilos", harvestedBy(0, 150) > 999);
        Check.same("the most weeks", Check.farm(five).simulate(0, 30), 999000);
        HarvestBoxes x = Check.farm(five);
        x.pack();
        Check.same("in these weeks alone", x.simulate(0, 1), 1000 * harvestedBy(0, 5));
        Check.same("none", Check.farm("Fh10v40").simulate(seedWithoutSkip(), 1), 0);
    }

    private static long seedWithoutSkip() {
        long seed = 0;
        while (drawn(next(next(seed))) % 4 == 0) {
            seed++;
        }
        return seed;
    }

    private static void madeSwaps() {
        Check.same("none", Check.farm("Fh10h10v00v00").simulate(1, 30) % 1000, 0);
        HarvestBoxes x = Check.farm("Fh10h10v40v40l009l011l101l119");
        x.pack();
        int answer = x.simulate(4, 20);
        Check.same("in these weeks alone", byActions(x, 4, 20), answer);
        Check.holds("some", answer % 1000 > 0);
        // The most swaps that were found: 999 seem out of reach.
        String many = "Fh30h40h40h40h40h30v00v00v00v00v00l002l016l020l033l045l106l110l120l137l149l200l215l228l237l246"
                + "l309l310l327l338l342";
        HarvestBoxes most = Check.farm(many);
        int[] likings = {3, 7, 0, 4, 6, 9, 3, 7, 8, 0};
        for (int i = 0; i < likings.length; i++) {
            most.setLiking(4 + i / 5, i % 5, likings[i]);
        }
        Check.same("541 swaps", most.simulate(-3563207205720808176L, 30) % 1000, 541);
    }

    private static void weeksOutOfRange() {
        for (int m : NO_WEEKS) {
            Twins.refuseAlways("simulate(1, " + m + ")", BAD_ARGUMENT, x -> x.simulate(1, m));
        }
    }
}
