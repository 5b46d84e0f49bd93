/** Promises 26 and 27: scripts and simulations. */
public final class ScriptTest {
    private static final Class<IllegalArgumentException> BAD_ARGUMENT = IllegalArgumentException.class;
    private static final int NONE = HarvestBoxes.NONE;
    private static final long SEED_FACTOR = 6364136223846793005L;
    private static final long SEED_STEP = 1442695040888963407L;

    public static void main(String[] args) {
        promise26Ranges();
        promise26Single();
        promise26Asking();
        promise26InOrder();
        promise26OnACopy();
        promise27Ranges();
        promise27AsActions();
        promise27Most();
        Check.end("ScriptTest");
    }

    private static void promise26Ranges() {
        HarvestBoxes x = Check.farm("Fh10v05");
        for (int n : new int[] {0, 5, -1, Integer.MIN_VALUE, Integer.MAX_VALUE}) {
            Check.failsAndKeeps(x, n + " commands", BAD_ARGUMENT, () -> x.runScript(n, 4000));
        }
        for (int n = 1; n <= 4; n++) {
            int commands = n;
            Check.fails("script -1", BAD_ARGUMENT, () -> x.runScript(commands, -1L));
            Check.fails("the least script", BAD_ARGUMENT, () -> x.runScript(commands, Long.MIN_VALUE));
            Check.fails("the greatest script", BAD_ARGUMENT, () -> x.runScript(commands, Long.MAX_VALUE));
        }
        Check.fails("no commands", BAD_ARGUMENT, () -> x.runScript(0, 0));
        Check.fails("5 digits", BAD_ARGUMENT, () -> x.runScript(1, 10000L));
        Check.fails("9 digits", BAD_ARGUMENT, () -> x.runScript(2, 100000000L));
        Check.fails("13 digits", BAD_ARGUMENT, () -> x.runScript(3, 1000000000000L));
        Check.fails("17 digits", BAD_ARGUMENT, () -> x.runScript(4, 10000000000000000L));
        Check.same("4 digits", x.runScript(1, 9999), 0);
        Check.same("8 digits", x.runScript(2, 99999999L), 0);
        Check.same("12 digits", x.runScript(3, 999999999999L), 0);
        Check.same("16 digits", x.runScript(4, 9999999999999999L), 0);
        Check.same("fewer digits", x.runScript(2, 4000), 0);
        Check.same("nothing", x.runScript(1, 0), 0);
    }

    private static void script(HarvestBoxes x, long due, int n, long script) {
        Check.same("runScript(" + n + ", " + script + ")", x.runScript(n, script), due);
    }

    private static void succeed(HarvestBoxes x, int... groups) {
        for (int group : groups) {
            script(x, NONE, 1, group);
        }
    }

    private static void fail(HarvestBoxes x, int... groups) {
        for (int group : groups) {
            script(x, 0, 1, group);
        }
    }

    private static void promise26Single() {
        HarvestBoxes x = Check.farm("Fh10h24v05v07");
        x.pack();
        // House 0 has 5 and 7 kilos and owes 1, house 1 has nothing and owes 4.
        succeed(x, 1000, 1140, 1007);
        fail(x, 1041, 1099, 1200, 1901);
        succeed(x, 2000, 2119, 2015);
        fail(x, 2200, 2020, 2905, 2095);
        succeed(x, 3000, 3010, 3110, 3100);
        fail(x, 3020, 3090, 3001, 3011, 3200, 3210, 3910);
        succeed(x, 4000);
        fail(x, 4001, 4010, 4100, 4999);
        succeed(x, 5010, 5110, 5140);
        fail(x, 5000, 5020, 5100, 5150, 5011, 5141, 5210, 5910);
        succeed(x, 6001, 6005, 6017);
        fail(x, 6000, 6006, 6018, 6101, 6021, 6201, 6010);
        fail(x, 0, 1, 10, 100, 999);
    }

    private static void promise26Asking() {
        HarvestBoxes x = Check.farm("Fh10h24v05v07");
        x.pack();
        // House 0 is as happy as 60, house 1 as 0.
        succeed(x, 7000, 7060, 7009, 7100);
        fail(x, 7061, 7099, 7101, 7110, 7200, 7900);
        succeed(x, 8000, 8005, 8017, 8100, 8110);
        fail(x, 8006, 8018, 8101, 8111, 8020, 8200, 8220, 8900, 8090);
        succeed(x, 9000, 9100);
        fail(x, 9200, 9900, 9001, 9010, 9101, 9110);
        HarvestBoxes none = new HarvestBoxes();
        succeed(none, 4000, 9000);
        fail(none, 1000, 2000, 3000, 5010, 6001, 7000, 8000, 9100);
    }

    private static void promise26InOrder() {
        HarvestBoxes x = Check.farm("Fh10h20v05v07");
        // The harvest is packed, then house 0 has 3 of the 9 kilos and house 1 the rest.
        script(x, NONE, 4, 1009_4000_8003_8106L);
        script(x, 2, 4, 1009_4000_8004_8106L);
        script(x, 3, 4, 1009_4000_8003_8107L);
        script(x, 1, 4, 1009_4001_9999_9999L);
        script(x, 0, 4, 1041_4000_8003_8106L);
        // Giving away what is there once is not giving it away twice.
        script(x, 3, 4, 1003_4000_6001_6001L);
        script(x, NONE, 4, 1006_4000_6001_6001L);
        // Skipping changes who gets a box, returning crates too.
        script(x, 1, 2, 3010_9200L);
        script(x, NONE, 3, 3010_3000_9200L);
        script(x, 3, 4, 4000_4000_4000_9100L);
        script(x, NONE, 4, 4000_4000_4000_5030L);
        script(x, 2, 4, 4000_5010_5010_4000L);
        // House 0 gets 2 and 3 kilos: 10 + 15, and with a liking of 9 for the first one 18 + 15.
        script(x, NONE, 2, 4000_7025L);
        script(x, 1, 2, 4000_7026L);
        script(x, NONE, 3, 2009_4000_7033L);
        script(x, 2, 3, 2009_4000_7034L);
        HarvestBoxes y = Check.farm("Fh13h10v05");
        script(y, NONE, 3, 5010_4000_8003L);
        script(y, 1, 2, 4000_8001L);
    }

    private static void promise26OnACopy() {
        HarvestBoxes x = Check.farm("Fh12h20v05v07");
        x.setHarvest(0, 12);
        Check.keeps(x, "a script", () -> script(x, NONE, 4, 1009_2015_3010_4000L));
        Check.keeps(x, "a script", () -> script(x, NONE, 4, 4000_6001_5010_8001L));
        Check.keeps(x, "a script that fails", () -> script(x, 1, 4, 4000_9999_5010_8001L));
        Check.same("a script is no action", x.undo(), 0);
    }

    private static void promise27Ranges() {
        HarvestBoxes x = Check.farm("Fh10v05");
        for (int m : new int[] {0, 31, -1, Integer.MIN_VALUE, Integer.MAX_VALUE}) {
            Check.failsAndKeeps(x, m + " weeks", BAD_ARGUMENT, () -> x.simulate(1, m));
        }
        Check.fails("no action", IllegalStateException.class, () -> x.undo());
    }

    /** What simulate does, done by the actions. */
    private static int byActions(HarvestBoxes x, long seed, int m) {
        long state = seed;
        int swaps = 0;
        int composted = -x.about(6);
        for (int week = 0; week < m; week++) {
            for (int v = 0; v < x.about(1); v++) {
                state = state * SEED_FACTOR + SEED_STEP;
                x.setHarvest(v, (int) (state >>> 33) % 20);
            }
            for (int h = 0; h < x.about(0); h++) {
                state = state * SEED_FACTOR + SEED_STEP;
                int r = (int) (state >>> 33);
                x.skip(h, r % 4 == 0);
                if (r % 4 == 1 && x.house(h, 1) > 0) {
                    x.returnCrates(h, x.house(h, 1));
                }
            }
            swaps += x.pack();
        }
        composted += x.about(6);
        return 1000 * Math.min(composted, 999) + Math.min(swaps, 999);
    }

    private static void promise27AsActions() {
        String[] texts = {"Fh10h20v05v07l009l010l101l118", "Fh14h20h30s1h49v05v07v00l103l008l014", "Fh10v00", "F", "Fv03",
            "Fh40s0", "Fh10h10h10h10h10h10v00v00v00v00v00l009l010l109l100l219l200l313l339l449l440l505l521"};
        long[] seeds = {0, 1, -1, 7, Long.MAX_VALUE, Long.MIN_VALUE, 123456789012345L};
        int[] weeks = {1, 2, 6, 12};
        for (String text : texts) {
            for (long seed : seeds) {
                for (int m : weeks) {
                    Check.same("simulate(" + seed + ", " + m + ") of " + text, Check.farm(text).simulate(seed, m),
                            byActions(Check.farm(text), seed, m));
                }
            }
        }
        HarvestBoxes x = Check.farm(texts[1]);
        x.pack();
        x.setHarvest(1, 30);
        HarvestBoxes y = Check.farm(texts[1]);
        y.pack();
        y.setHarvest(1, 30);
        Check.keeps(x, "simulate", () -> Check.same("some weeks later", x.simulate(5, 9), byActions(y, 5, 9)));
        Check.same("simulate is no action", x.undo(), 1);
    }

    private static void promise27Most() {
        HarvestBoxes x = Check.farm("Fv00v00v00v00v00");
        Check.same("more than 999 kilos", x.simulate(1, 30), 999000);
        HarvestBoxes y = Check.farm("Fv40v40v40v40v40");
        y.pack();
        Check.same("what was composted before does not count", y.simulate(1, 1), byActions(Check.farm(
                "Fv00v00v00v00v00"), 1, 1));
        Check.same("it is kept", y.about(6), 200);
        Check.same("a week that is told", Check.farm("Fv00").simulate(0, 1), 1000 * firstHarvest(0));
    }

    private static int firstHarvest(long seed) {
        return (int) ((seed * SEED_FACTOR + SEED_STEP) >>> 33) % 20;
    }
}
