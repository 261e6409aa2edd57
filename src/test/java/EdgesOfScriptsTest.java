import java.math.BigInteger;

/** The sentences of promises 21 to 24 that name a boundary case, one test each. */
public final class EdgesOfScriptsTest {
    private static final long FACTOR = 6364136223846793005L;
    private static final long ADDEND = 1442695040888963407L;
    private static final int GREATEST_R = Integer.MAX_VALUE;

    public static void main(String[] args) {
        all();
        Check.end();
    }

    static void all() {
        scripts();
        scriptCommands();
        scriptAnswers();
        turns();
        simulations();
        slots();
    }

    private static void script(ButtonGuests x, int n, long script, int due) {
        Check.is("runScript(" + n + ", " + script + ")", x.runScript(n, script), due);
    }

    private static void succeed(ButtonGuests x, long... groups) {
        for (long group : groups) {
            script(x, 1, group, -1);
        }
    }

    private static void fail(ButtonGuests x, long... groups) {
        for (long group : groups) {
            script(x, 1, group, 0);
        }
    }

    // ---- promise 21

    private static void scripts() {
        Check.promise(21, "Runs a script on a copy of the state.", EdgesOfScriptsTest::onACopy);
        Check.promise(21, "A script has 1 to 3 commands;", EdgesOfScriptsTest::oneToThree);
        Check.promise(21, "the first command is the highest group of the number", EdgesOfScriptsTest::highestGroup);
        Check.promise(21, "(with zeros before it, if it has fewer digits)", EdgesOfScriptsTest::zerosBefore);
        Check.promise(21, "`script`: the commands, a number of at most 5 * n digits (0 or more)",
            EdgesOfScriptsTest::mostDigits);
    }

    private static void onACopy() {
        ButtonGuests x = Check.passed(3, "g5131");
        String before = Check.everything(Check.passed(3, "g5131"));
        script(x, 3, 112342100030009L, -1);
        script(x, 3, 400004000040000L, -1);
        script(x, 3, 500165100952009L, -1);
        Check.isTrue("all is as it was", Check.everything(x).equals(before));
    }

    private static void oneToThree() {
        ButtonGuests x = Check.loaded("Hg2231g3231");
        script(x, 1, 20000L, -1);
        script(x, 2, 2000021000L, -1);
        script(x, 3, 200002100080002L, -1);
        script(x, 3, 200002100020000L, 2);
        script(x, 2, 2000020000L, 1);
    }

    private static void highestGroup() {
        ButtonGuests x = Check.loaded("Hg2231g3231");
        script(x, 2, 2000060001L, -1);
        script(x, 2, 6000120000L, 0);
        script(x, 2, 6000020000L, -1);
        script(x, 3, 200002100060002L, -1);
        script(x, 3, 210002000060002L, 2);
        script(x, 3, 210002000060001L, -1);
    }

    private static void zerosBefore() {
        ButtonGuests x = Check.loaded("Hg2231");
        script(x, 2, 20000L, 0);
        script(x, 3, 2000060001L, 0);
        script(x, 1, 1231L, 0);
        script(x, 1, 0L, 0);
        script(x, 3, 0L, 0);
        script(x, 3, 1L, 0);
    }

    private static void mostDigits() {
        ButtonGuests x = new ButtonGuests();
        script(x, 1, 99999L, 0);
        script(x, 1, 90999L, -1);
        script(x, 2, 9999999999L, 0);
        script(x, 2, 9099990999L, -1);
        script(x, 3, 999999999999999L, 0);
        script(x, 3, 909999099990999L, -1);
        Check.noArgument("six digits", () -> x.runScript(1, 100000L));
        Check.noArgument("eleven digits", () -> x.runScript(2, 10000000000L));
        Check.noArgument("sixteen digits", () -> x.runScript(3, 1000000000000000L));
    }

    private static void scriptCommands() {
        Check.promise(21, "1 b a h w: come(b, a, h, w).", EdgesOfScriptsTest::command1);
        Check.promise(21, "2 g 0 0 0: press(g); succeeds if the elevator goes.", EdgesOfScriptsTest::command2);
        Check.promise(21, "3 0 0 0 n: rest(), n times.", EdgesOfScriptsTest::command3);
        Check.promise(21, "All are decimal numbers;", EdgesOfScriptsTest::decimalNumbers);
        Check.promise(21, "in 3, n as 0 always succeeds.", EdgesOfScriptsTest::command3WithZero);
        Check.promise(21, "4 g 0 0 0: leave(g).", EdgesOfScriptsTest::command4);
        Check.promise(21, "5 w 0 v v: set(w, vv).", EdgesOfScriptsTest::command5);
        Check.promise(21, "6 g 0 0 s: succeeds if the state of the guest g is s.", EdgesOfScriptsTest::command6);
        Check.promise(21, "7 g 0 0 k: succeeds if the guest g has at most k grudges.", EdgesOfScriptsTest::command7);
        Check.promise(21, "8 0 0 0 n: succeeds if at least n guests are home.", EdgesOfScriptsTest::command8);
        Check.promise(21, "9 0 s s s: succeeds if at most sss seconds went by so far.", EdgesOfScriptsTest::command9);
        Check.promise(21, "The commands 1 to 5 fail if the method would throw an exception;", EdgesOfScriptsTest::wouldThrow);
        Check.promise(21, "commands with guests or floors that do not exist fail", EdgesOfScriptsTest::doNotExist);
        Check.promise(21, "and so does any other group", EdgesOfScriptsTest::otherGroups);
        Check.promise(21, "(also one with another digit where a 0 is written)", EdgesOfScriptsTest::anotherDigit);
    }

    private static void command1() {
        ButtonGuests x = new ButtonGuests();
        succeed(x, 10001, 16664);
        fail(x, 17001, 10701, 10071, 10000, 10005);
        script(x, 2, 1123460000L, -1);
        script(x, 2, 1122460002L, -1);
        script(x, 3, 111312000060001L, -1);
        script(x, 3, 130612000080001L, 2);
        script(x, 3, 130612000090011L, -1);
        ButtonGuests y = Check.loaded("Hg0121g0121g0121");
        script(y, 2, 1012110121L, 1);
    }

    private static void command2() {
        ButtonGuests x = Check.passed(3, "g5131g6221");
        succeed(x, 21000);
        fail(x, 20000, 22000, 23000);
        script(x, 2, 2100020000L, -1);
        ButtonGuests y = Check.loaded("Hg0121g0121g0121g3121");
        succeed(y, 23000);
        fail(y, 24000);
    }

    private static void command3() {
        ButtonGuests x = Check.passed(10, "g5131");
        int seconds = x.about(6);
        script(x, 2, 3000972000L, -1);
        script(x, 2, 3000872000L, 1);
        script(x, 2, 3000872001L, -1);
        script(x, 2, 3000190000L + seconds + 30, -1);
        script(x, 2, 3000190000L + seconds + 29, 1);
        script(x, 2, 3000990000L + seconds + 270, -1);
        script(x, 2, 3000990000L + seconds + 269, 1);
        succeed(new ButtonGuests(), 30009);
    }

    /** Three who weigh 4 each wait where 0 calls the elevator; nine rests are 270 seconds, three are 90. */
    private static void decimalNumbers() {
        ButtonGuests x = Check.loaded("He004g1104g1104g1104");
        script(x, 3, 500122000062001L, -1);
        script(x, 3, 500112000062001L, 2);
        script(x, 3, 500112000061001L, -1);
        ButtonGuests y = new ButtonGuests();
        script(y, 2, 3000990270L, -1);
        script(y, 2, 3000990269L, 1);
        script(y, 2, 3000390090L, -1);
        script(y, 2, 3000390089L, 1);
    }

    private static void command3WithZero() {
        succeed(new ButtonGuests(), 30000);
        ButtonGuests x = Check.passed(1, "g5131");
        succeed(x, 30000);
        script(x, 2, 3000072000L, 1);
        script(x, 2, 3000190000L, 1);
        script(new ButtonGuests(), 2, 3000090000L, -1);
    }

    private static void command4() {
        ButtonGuests x = Check.loaded("Hg0121g0121g0121g0111");
        succeed(x, 40000, 43000);
        fail(x, 44000);
        script(x, 3, 400004200042000L, 2);
        script(x, 3, 400004000041000L, -1);
        script(x, 2, 4300080001L, 1);
        script(x, 2, 4000062002L, -1);
        fail(new ButtonGuests(), 40000);
    }

    private static void command5() {
        ButtonGuests x = new ButtonGuests();
        succeed(x, 50004, 50016, 51001, 51009, 52001, 52009);
        fail(x, 50003, 50017, 51000, 51010, 52000, 52010, 53004, 50000, 50099);
        ButtonGuests y = Check.loaded("He201g1031");
        script(y, 3, 520092000090014L, -1);
        script(y, 3, 520092000090013L, 2);
        ButtonGuests z = Check.loaded("He004g1104g1104g1104");
        script(z, 3, 500162000062001L, -1);
        script(z, 3, 500102000062001L, 2);
        script(z, 3, 500122000062001L, -1);
    }

    private static void command6() {
        ButtonGuests x = Check.loaded("Hg1231g1101g2661g0661p1");
        succeed(x, 60000, 61001, 62002, 63002);
        fail(x, 60001, 60002, 60003, 60009, 61000, 61002, 62000, 62001, 62003, 64000);
    }

    private static void command7() {
        ButtonGuests x = Check.passed(4, "g5131");
        succeed(x, 70000, 70009, 72004, 72005, 72009);
        fail(x, 72003, 72000, 73009);
        succeed(Check.passed(9, "g5131"), 72009);
        fail(Check.passed(9, "g5131"), 72008);
    }

    private static void command8() {
        ButtonGuests x = Check.loaded("Hg1221g1231g1331");
        succeed(x, 80000, 80001, 80002);
        fail(x, 80003, 80004, 80009);
        succeed(new ButtonGuests(), 80000);
        fail(new ButtonGuests(), 80001);
        ButtonGuests y = Check.loaded("Hg1221g1221g1221g1221");
        succeed(y, 80004);
        fail(y, 80005);
    }

    private static void command9() {
        succeed(new ButtonGuests(), 90000, 90999);
        ButtonGuests x = Check.loaded("Hg1231p0");
        succeed(x, 90007, 90008, 90999);
        fail(x, 90006, 90000);
        ButtonGuests y = new ButtonGuests();
        for (int i = 0; i < 34; i++) {
            y.rest();
        }
        fail(y, 90999);
        y.undo();
        succeed(y, 90990);
        fail(y, 90989);
    }

    private static void wouldThrow() {
        ButtonGuests x = Check.loaded("Hg0121g0121g0121g0121");
        fail(x, 10121, 17121, 10125, 24000, 44000, 50003, 50017, 53005);
        script(x, 2, 4000010121L, -1);
        script(x, 3, 400001012110121L, 2);
        fail(new ButtonGuests(), 20000, 40000);
    }

    private static void doNotExist() {
        ButtonGuests x = Check.loaded("Hg1231");
        fail(x, 21000, 29000, 41000, 49000, 61000, 61001, 61002, 61009, 69000, 71000, 71009, 79009);
        fail(x, 17001, 18001, 19001, 10701, 10801, 10901, 10071, 10081, 10091);
        fail(new ButtonGuests(), 20000, 40000, 60000, 70009);
        succeed(x, 20000, 40000, 60000, 70000);
    }

    private static void otherGroups() {
        ButtonGuests x = Check.loaded("Hg1231g1221");
        fail(x, 0, 1, 1000, 1231, 9999, 99999, 91000);
    }

    private static void anotherDigit() {
        ButtonGuests x = Check.loaded("Hg1231g1221");
        succeed(x, 20000, 30002, 40000, 50005, 60000, 70009, 80001, 90009);
        fail(x, 20100, 20010, 20001);
        fail(x, 31002, 30102, 30012);
        fail(x, 40100, 40010, 40001);
        fail(x, 50105, 50905);
        fail(x, 60100, 60010);
        fail(x, 70109, 70019);
        fail(x, 81001, 80101, 80011);
        fail(x, 91009, 99009);
    }

    private static void scriptAnswers() {
        Check.promise(21, "Returns the index, from 0, of the first command that fails;", EdgesOfScriptsTest::firstThatFails);
        Check.promise(21, "NONE if all succeed.", EdgesOfScriptsTest::allSucceed);
        Check.promise(21, "Throws `IllegalArgumentException` if n is out of range", EdgesOfScriptsTest::wrongN);
        Check.promise(21, "or if script is negative or has more than 5 * n digits", EdgesOfScriptsTest::wrongScript);
    }

    private static void firstThatFails() {
        ButtonGuests x = Check.loaded("Hg1231");
        script(x, 3, 21000L * 10000000000L + 2100021000L, 0);
        script(x, 3, 30000L * 10000000000L + 2100021000L, 1);
        script(x, 3, 30000L * 10000000000L + 3000021000L, 2);
        script(x, 3, 30000L * 10000000000L + 2100030000L, 1);
        script(x, 3, 21000L * 10000000000L + 3000030000L, 0);
        script(x, 2, 3000021000L, 1);
        script(x, 1, 21000L, 0);
    }

    private static void allSucceed() {
        ButtonGuests x = Check.loaded("Hg1231");
        script(x, 1, 30000L, -1);
        script(x, 2, 3000030000L, -1);
        script(x, 3, 300003000030000L, -1);
    }

    private static void wrongN() {
        ButtonGuests x = new ButtonGuests();
        for (int n : new int[] {Integer.MIN_VALUE, -1, 0, 4, 5, Integer.MAX_VALUE}) {
            Check.noArgument("runScript(" + n + ", 0)", () -> x.runScript(n, 0));
            Check.noArgument("runScript(" + n + ", 30000)", () -> x.runScript(n, 30000));
        }
        script(x, 1, 30000L, -1);
        script(x, 3, 300003000030000L, -1);
    }

    private static void wrongScript() {
        ButtonGuests x = new ButtonGuests();
        long most = 1;
        for (int n = 1; n <= 3; n++) {
            most *= 100000;
            int commands = n;
            long more = most;
            script(x, n, more - 1, 0);
            for (long wrong : new long[] {more, more + 30000, -1, -30000, Long.MIN_VALUE, Long.MAX_VALUE, 1L << 62}) {
                Check.noArgument("runScript(" + n + ", " + wrong + ")", () -> x.runScript(commands, wrong));
            }
        }
    }

    // ---- promise 22

    private static void turns() {
        Check.promise(22, "A long x starts as the seed.", EdgesOfScriptsTest::startsAsTheSeed);
        Check.promise(22, "Each turn first replaces x by x * 6364136223846793005L + 1442695040888963407L",
            EdgesOfScriptsTest::replacesFirst);
        Check.promise(22, "(with long overflow)", EdgesOfScriptsTest::overflow);
        Check.promise(22, "and r = (int) (x >>> 33) is computed.", EdgesOfScriptsTest::neverNegative);
        Check.promise(22, "q is r / 16.", EdgesOfScriptsTest::sixteenth);
        Check.promise(22, "By r % 16: 0 to 2: come(q % 7, q / 8 % 7, q / 64 % 7, 1 + q / 512 % 4).",
            EdgesOfScriptsTest::turnsOfCome);
        Check.promise(22, "3: leave(q % 4), if q / 4 % 3 is 0.", EdgesOfScriptsTest::turnsOfLeave);
        Check.promise(22, "4: rest().", EdgesOfScriptsTest::turnsOfRest);
        Check.promise(22, "5: set(0, 4 + q % 13), if q / 16 % 2 is 0", EdgesOfScriptsTest::turnsOfLoads);
        Check.promise(22, "otherwise set(1, 1 + q % 9).", EdgesOfScriptsTest::turnsOfPatience);
        Check.promise(22, "Otherwise: press(q % 4).", EdgesOfScriptsTest::turnsOfPress);
        Check.promise(22, "What would throw an exception is left out.", EdgesOfScriptsTest::leftOut);
        Check.sentence("Terms: All divisions are rounded down.", EdgesOfScriptsTest::roundedDown);
    }

    /** What x has to be before a turn, to be this in it. The factor is odd, so there is one that undoes it. */
    private static long before(long x) {
        long inverse = FACTOR;
        for (int i = 0; i < 6; i++) {
            inverse *= 2 - FACTOR * inverse;
        }
        return (x - ADDEND) * inverse;
    }

    /** A seed whose first turn has this r. */
    private static long seed(int r) {
        return before((long) r << 33);
    }

    private static int next(long x) {
        return (int) (x * FACTOR + ADDEND >>> 33);
    }

    private static boolean isPress(int r, int g) {
        return r % 16 > 5 && r / 16 % 4 == g;
    }

    /** A seed whose first turn has this r, and whose second turn is press(g). */
    private static long seedAndPress(int r, int g) {
        long x = (long) r << 33;
        while (!isPress(next(x), g)) {
            x++;
        }
        return before(x);
    }

    private static void turn(ButtonGuests x, int r, int due) {
        Check.is("a turn with r = " + r, x.simulate(seed(r), 1), due);
    }

    private static void turnAndPress(ButtonGuests x, int r, int g, int due) {
        Check.is("a turn with r = " + r + " and press(" + g + ")", x.simulate(seedAndPress(r, g), 2), due);
    }

    /** The turns as calls of another object, with x counted in numbers that do not overflow. */
    private static int replayed(ButtonGuests y, long seed, int m) {
        int presses = y.about(7);
        int home = y.about(11);
        BigInteger whole = BigInteger.ONE.shiftLeft(64);
        BigInteger x = BigInteger.valueOf(seed).mod(whole);
        for (int i = 0; i < m; i++) {
            x = x.multiply(BigInteger.valueOf(FACTOR)).add(BigInteger.valueOf(ADDEND)).mod(whole);
            try {
                replay(y, x.shiftRight(33).intValueExact());
            } catch (IndexOutOfBoundsException | IllegalStateException e) {
                // left out
            }
        }
        return 10000 * (y.about(7) - presses) + 100 * (y.about(11) - home) + y.about(10);
    }

    private static void replay(ButtonGuests y, int r) {
        int q = r / 16;
        int kind = r % 16;
        if (kind < 3) {
            y.come(q % 7, q / 8 % 7, q / 64 % 7, 1 + q / 512 % 4);
        } else if (kind == 3 && q / 4 % 3 == 0) {
            y.leave(q % 4);
        } else if (kind == 4) {
            y.rest();
        } else if (kind == 5 && q / 16 % 2 == 0) {
            y.set(0, 4 + q % 13);
        } else if (kind == 5) {
            y.set(1, 1 + q % 9);
        } else if (kind > 5) {
            y.press(q % 4);
        }
    }

    private static void asReplayed(String text, long seed, int m) {
        Check.is("simulate(" + seed + ", " + m + ") of " + text, Check.loaded(text).simulate(seed, m),
            replayed(Check.loaded(text), seed, m));
    }

    /** Guest 2 has two grudges; guest 0, who rides, would press, the others would not. */
    private static ButtonGuests two() {
        return Check.passed(2, "g0131");
    }

    /** Buttons for 1, 2, 4 and 0; all wait at 6, where the elevator never comes. */
    private static ButtonGuests buttons() {
        return Check.loaded("Hg1651g2651g4651g0651");
    }

    /** Another simulation before leaves no x behind. */
    private static void startsAsTheSeed() {
        ButtonGuests x = two();
        Check.is("a press", x.simulate(seed(6), 1), 10003);
        Check.is("a rest", x.simulate(seed(4), 1), 1);
        Check.is("a press again", x.simulate(seed(6), 1), 10003);
        asReplayed("H", 0, 100);
        asReplayed("H", 1, 100);
    }

    /** x itself would be a press of 0; only the next x, the first that counts, is a rest. */
    private static void replacesFirst() {
        long x = (long) 4 << 33;
        while (!isPress((int) (before(x) >>> 33), 0)) {
            x++;
        }
        Check.is("a rest alone", two().simulate(before(x), 1), 1);
        Check.is("a press alone", two().simulate(seed(6), 1), 10003);
        asReplayed("Hg2231g3231g0154", 5, 2);
        asReplayed("Hg2231g3231g0154", 5, 100);
    }

    private static void overflow() {
        for (long seed : new long[] {Long.MAX_VALUE, Long.MIN_VALUE, -1, 0, 1, 1L << 62, -FACTOR}) {
            asReplayed("Hg2231g3231g0154", seed, 50);
        }
    }

    private static void neverNegative() {
        int rest = GREATEST_R - 11;
        turn(two(), rest, 1);
        turn(two(), 1 << 30 | 4, 1);
        turn(two(), 1 << 30 | 16 * 2 | 3, 2);
        turn(buttons(), GREATEST_R, 0);
        turn(buttons(), GREATEST_R - 16, 10000);
        turnAndPress(buttons(), GREATEST_R - 16, 2, 10000);
        turn(two(), 0, 2);
    }

    private static void sixteenth() {
        for (int g = 0; g < 4; g++) {
            for (int other = 0; other < 4; other++) {
                int due = (g == 3 ? 0 : 10000) + (g == other || g == 3 && other == 3 ? 0 : 10000);
                turnAndPress(buttons(), 16 * g + 6, other, due);
                turnAndPress(buttons(), 16 * g + 15, other, due);
            }
        }
    }

    private static void turnsOfCome() {
        int q = 1 + 8 * 2 + 64 * 3;
        for (int kind = 0; kind < 3; kind++) {
            turnAndPress(new ButtonGuests(), 16 * q + kind, 0, 10001);
            turnAndPress(new ButtonGuests(), kind, 0, 0);
            turn(two(), 16 * q + kind, 2);
        }
        turnAndPress(new ButtonGuests(), 16 * q + 3, 0, 0);
        int[] all = {0, 1, 6, 7, 8, 13, 55, 56, 63, 64, 209, 447, 448, 511, 512, 1023, 1024, 2047, 2048, 4095, 134217727};
        for (int some : all) {
            for (int g = 0; g < 3; g++) {
                asReplayed("H", seedAndPress(16 * some, g), 2);
                asReplayed("He004g6042g3061p0p1", seedAndPress(16 * some + 1, g), 2);
                asReplayed("He004g6041g3061p0p1", seedAndPress(16 * some + 2, 2), 60);
            }
        }
        weightsOfCome();
    }

    /** Who comes to 3 calls the elevator there, but one of 4, 3, 2 or 1 rides already with 4 as the greatest load. */
    private static void weightsOfCome() {
        for (int weight = 1; weight <= 4; weight++) {
            int q = 512 * (weight - 1) + 8 * 3;
            while (q % 7 != 3 || q / 8 % 7 != 3 || q / 64 % 7 == 3) {
                q++;
            }
            for (int rides = 1; rides <= 4; rides++) {
                ButtonGuests x = Check.loaded("He004g110" + rides + "p0");
                x.come(0, 5, 6, 1);
                turnAndPress(x, 16 * q, 2, rides + 1 + q / 512 % 4 <= 4 ? 10000 : 10001);
            }
        }
    }

    private static void turnsOfLeave() {
        ButtonGuests x = two();
        turn(x, 16 * 2 + 3, 0);
        turn(x, 16 * 6 + 3, 2);
        turn(x, 16 * 10 + 3, 2);
        turn(x, 16 * 14 + 3, 0);
        turn(x, 16 * 3 + 3, 2);
        turn(x, 16 + 3, 2);
        turnAndPress(x, 16 * 3 + 3, 0, 10003);
        turnAndPress(x, 3, 0, 2);
        turnAndPress(x, 16 * 4 + 3, 0, 10003);
        turnAndPress(x, 16 * 8 + 3, 0, 10003);
        turnAndPress(x, 16 * 12 + 3, 0, 2);
    }

    private static void turnsOfRest() {
        for (int q = 0; q < 64; q++) {
            turn(two(), 16 * q + 4, 1);
            turn(new ButtonGuests(), 16 * q + 4, 0);
        }
        turn(Check.passed(9, "g5131g6151"), 4, 16);
    }

    /** Four who weigh 4 each wait at 1, and 0 calls the elevator there. */
    private static void turnsOfLoads() {
        ButtonGuests x = Check.loaded("Hg1104g1104g1104g1104");
        ButtonGuests y = Check.loaded("He016g1104g1101g1101g1101");
        for (int i = 0; i < 16; i++) {
            for (int q : new int[] {i, i + 32, i + 64}) {
                int load = 4 + q % 13;
                turnAndPress(x, 16 * q + 5, 0, 10000 + 4 - load / 4);
                turnAndPress(y, 16 * q + 5, 0, 10000 + (load < 7 ? 7 - load : 0));
            }
        }
        turnAndPress(y, 16 * 16 + 5, 0, 10000);
    }

    /** Guest 2 has five grudges and would go from 2 to 5, past guest 1 at 4. */
    private static void turnsOfPatience() {
        ButtonGuests x = Check.passed(5, "g5131");
        for (int i = 16; i < 32; i++) {
            for (int q : new int[] {i, i + 32, i + 64}) {
                turnAndPress(x, 16 * q + 5, 2, 1 + q % 9 > 5 ? 10006 : 5);
            }
        }
        turnAndPress(x, 16 * 7 + 5, 2, 5);
    }

    private static void turnsOfPress() {
        for (int kind = 6; kind < 16; kind++) {
            for (int q = 0; q < 8; q++) {
                turn(buttons(), 16 * q + kind, q % 4 == 3 ? 0 : 10000);
                turnAndPress(buttons(), 16 * q + kind, q % 4, q % 4 == 3 ? 0 : 10000);
            }
        }
        for (int kind = 0; kind < 6; kind++) {
            turn(buttons(), 16 * 4 + kind, 0);
        }
    }

    private static void leftOut() {
        ButtonGuests x = new ButtonGuests();
        for (int q = 0; q < 4; q++) {
            turn(x, 16 * q + 3, 0);
            turn(x, 16 * q + 6, 0);
        }
        turnAndPress(buttons(), 16 * 209, 3, 0);
        turnAndPress(buttons(), 16 * 209, 0, 10000);
        turnAndPress(two(), 16 * 3 + 3, 0, 10003);
        turnAndPress(two(), 16 * 3 + 6, 0, 10003);
    }

    private static void roundedDown() {
        ButtonGuests x = Check.passed(2, "g5131g6151");
        turn(x, 16 * 3 + 3, 2);
        turn(x, 16 * 7 + 3, 4);
        turn(x, 16 * 11 + 3, 4);
        turn(x, 16 * 15 + 3, 2);
        turnAndPress(Check.passed(5, "g5131"), 16 * 15 + 5, 2, 5);
        turnAndPress(Check.passed(5, "g5131"), 16 * 17 + 5, 2, 10006);
        turnAndPress(Check.passed(5, "g5131"), 16 * 32 + 5, 2, 5);
        turn(buttons(), 16 * 2 + 15, 10000);
        turn(buttons(), 16 * 3 + 15, 0);
        asReplayed("H", seedAndPress(16 * (511 + 512 * 3), 0), 2);
    }

    private static void simulations() {
        Check.promise(22, "Simulates m turns on a copy of the state.", EdgesOfScriptsTest::turnsOnACopy);
        Check.promise(22, "`seed`: any long", EdgesOfScriptsTest::anySeed);
        Check.promise(22, "`m`: number of turns, 1 to 100", EdgesOfScriptsTest::oneToHundred);
        Check.promise(22, "10000 * (the presses in the turns)", EdgesOfScriptsTest::pressesInTheTurns);
        Check.promise(22, "100 * (the guests who came home by the elevator in the turns)",
            EdgesOfScriptsTest::homeInTheTurns);
        Check.promise(22, "(the grudges of all guests together at the end).", EdgesOfScriptsTest::grudgesAtTheEnd);
        Check.promise(22, "Throws `IllegalArgumentException` if m is out of range", EdgesOfScriptsTest::wrongM);
    }

    private static void turnsOnACopy() {
        ButtonGuests x = Check.passed(3, "g5131");
        for (long seed = 0; seed < 50; seed++) {
            x.simulate(seed, 100);
        }
        Check.isTrue("all is as it was", Check.everything(x).equals(Check.everything(Check.passed(3, "g5131"))));
    }

    private static void anySeed() {
        for (long seed : new long[] {Long.MIN_VALUE, Long.MIN_VALUE + 1, -1, 0, 1, Long.MAX_VALUE - 1, Long.MAX_VALUE}) {
            asReplayed("H", seed, 100);
            asReplayed("He109g2051g0361g4141g1522", seed, 100);
        }
    }

    private static void oneToHundred() {
        for (int m : new int[] {1, 2, 99, 100}) {
            for (long seed = 0; seed < 20; seed++) {
                asReplayed("He109g2051g0361g4141g1522", seed, m);
            }
        }
    }

    private static void pressesInTheTurns() {
        ButtonGuests x = buttons();
        turn(x, 6, 10000);
        x.press(0);
        x.press(1);
        x.press(0);
        turn(x, 16 + 6, 10000);
        turn(x, 6, 0);
        turnAndPress(x, 16 + 6, 0, 20000);
        turnAndPress(x, 6, 0, 0);
    }

    private static void homeInTheTurns() {
        ButtonGuests x = Check.loaded("Hg1131g3131g0441p0");
        turn(x, 16 + 6, 10200);
        turn(x, 6, 0);
        x.press(1);
        turn(x, 4, 0);
        int comesHome = 64 * 2;
        turn(x, 16 * comesHome, 0);
        turnAndPress(Check.loaded("Hg1131g3131g0441p0"), 16 + 6, 0, 10200);
    }

    private static void grudgesAtTheEnd() {
        turn(new ButtonGuests(), 4, 0);
        turn(two(), 16 * 4 + 3, 2);
        turn(Check.passed(9, "g5131g6151"), 4, 16);
        turn(Check.passed(9, "g5131g6151"), 16 + 6, 10018);
        turn(Check.passed(9, "g5131g6151"), 16 * 2 + 3, 9);
    }

    private static void wrongM() {
        ButtonGuests x = new ButtonGuests();
        for (int m : new int[] {Integer.MIN_VALUE, -1, 0, 101, Integer.MAX_VALUE}) {
            Check.noArgument("simulate(0, " + m + ")", () -> x.simulate(0, m));
        }
        Check.is("one turn", x.simulate(seed(4), 1), 0);
        asReplayed("H", 5, 100);
    }

    // ---- promises 23 and 24

    private static void slots() {
        Check.promise(23, "Stores the present state in a save slot.", EdgesOfScriptsTest::stores);
        Check.promise(23, "`slot`: 0 or 1", EdgesOfScriptsTest::twoSlots);
        Check.promise(23, "Returns the seconds so far.", EdgesOfScriptsTest::secondsSaved);
        Check.promise(23, "Throws `IndexOutOfBoundsException` if there is no such save slot", EdgesOfScriptsTest::noSlotToSave);
        Check.promise(24, "`slot`: 0 or 1", EdgesOfScriptsTest::eitherSlot);
        Check.promise(24, "Replaces the state by the one in a save slot", EdgesOfScriptsTest::replaces);
        Check.promise(24, "and forgets all remembered states.", EdgesOfScriptsTest::forgets);
        Check.promise(24, "The save slot keeps it.", EdgesOfScriptsTest::keeps);
        Check.promise(24, "Returns the seconds so far then.", EdgesOfScriptsTest::secondsThen);
        Check.promise(24, "Throws `IndexOutOfBoundsException` if there is no such save slot",
            EdgesOfScriptsTest::noSlotToRestore);
        Check.promise(24, "Throws `IllegalStateException` if nothing has been saved in it since the last load",
            EdgesOfScriptsTest::nothingSaved);
    }

    private static void stores() {
        ButtonGuests x = Check.passed(3, "g5131g1221");
        x.press(3);
        x.set(0, 9);
        String before = Check.state(x);
        x.save(0);
        x.press(1);
        x.leave(2);
        x.set(0, 4);
        x.set(1, 9);
        x.set(2, 9);
        x.save(1);
        x.restore(0);
        Check.sameState("what was saved", x, before);
        x.rest();
        x.save(0);
        x.restore(1);
        x.restore(0);
        Check.is("what was saved later", x.about(6), 3 * 9 + 30);
    }

    private static void twoSlots() {
        ButtonGuests x = new ButtonGuests();
        x.save(0);
        x.rest();
        x.save(1);
        x.rest();
        Check.is("slot 0", x.restore(0), 0);
        Check.is("slot 1", x.restore(1), 30);
        Check.noIndex("save(-1)", () -> x.save(-1));
        Check.noIndex("save(2)", () -> x.save(2));
    }

    private static void secondsSaved() {
        ButtonGuests x = new ButtonGuests();
        Check.is("none", x.save(1), 0);
        x.rest();
        Check.is("of a rest", x.save(1), 30);
        Check.is("in another slot", x.save(0), 30);
        ButtonGuests y = Check.loaded("He209g6051p0");
        Check.is("of a press", y.save(0), 59);
    }

    private static void noSlotToSave() {
        ButtonGuests x = new ButtonGuests();
        for (int slot : new int[] {Integer.MIN_VALUE, -1, 2, Integer.MAX_VALUE}) {
            Check.noIndex("save(" + slot + ")", () -> x.save(slot));
        }
        Check.noState("slot 0 is empty", () -> x.restore(0));
        Check.noState("slot 1 is empty", () -> x.restore(1));
    }

    private static void eitherSlot() {
        ButtonGuests x = new ButtonGuests();
        x.rest();
        x.save(1);
        x.rest();
        x.save(0);
        Check.is("slot 0", x.restore(0), 60);
        Check.is("slot 1", x.restore(1), 30);
        Check.is("slot 0 again", x.restore(0), 60);
        Check.noIndex("restore(-1)", () -> x.restore(-1));
        Check.noIndex("restore(2)", () -> x.restore(2));
    }

    private static void replaces() {
        ButtonGuests x = Check.passed(3, "g5131g1221");
        x.press(3);
        String before = Check.state(x);
        x.save(1);
        x.append('x');
        x.press(3);
        for (int g = 0; g < 4; g++) {
            x.leave(0);
        }
        for (int g = 0; g < 3; g++) {
            x.come(6, 5, 5, 4);
        }
        x.set(0, 4);
        x.set(1, 9);
        x.set(2, 9);
        x.rest();
        x.restore(1);
        Check.sameState("restore(1)", x, before);
        Check.is("the text stays", x.clearText(), 28);
        ButtonGuests y = new ButtonGuests();
        y.save(0);
        y.come(1, 2, 3, 4);
        y.restore(0);
        Check.sameState("restore of a new hotel", y, Check.state(new ButtonGuests()));
    }

    private static void forgets() {
        ButtonGuests x = new ButtonGuests();
        x.rest();
        x.save(0);
        for (int i = 0; i < 20; i++) {
            x.rest();
        }
        x.restore(0);
        Check.noState("undo()", x::undo);
        Check.is("seconds", x.about(6), 30);
        x.rest();
        Check.is("undo() of what is behind", x.undo(), 0);
        Check.is("seconds behind undo()", x.about(6), 30);
    }

    private static void keeps() {
        ButtonGuests x = Check.loaded("Hg3051");
        x.save(0);
        String before = Check.state(x);
        for (int i = 0; i < 3; i++) {
            x.restore(0);
            Check.sameState("restore(0)", x, before);
            x.press(0);
            x.rest();
            x.leave(0);
        }
        x.save(1);
        x.restore(1);
        x.restore(0);
        Check.sameState("restore(0) behind restore(1)", x, before);
    }

    private static void secondsThen() {
        ButtonGuests x = new ButtonGuests();
        x.save(0);
        x.rest();
        x.save(1);
        x.rest();
        Check.is("of slot 1", x.restore(1), 30);
        Check.is("of slot 0", x.restore(0), 0);
        Check.is("of slot 1 again", x.restore(1), 30);
    }

    private static void noSlotToRestore() {
        ButtonGuests x = new ButtonGuests();
        x.save(0);
        x.save(1);
        for (int slot : new int[] {Integer.MIN_VALUE, -1, 2, Integer.MAX_VALUE}) {
            Check.noIndex("restore(" + slot + ")", () -> x.restore(slot));
        }
        Check.is("restore(0)", x.restore(0), 0);
        Check.is("restore(1)", x.restore(1), 0);
    }

    private static void nothingSaved() {
        ButtonGuests x = new ButtonGuests();
        Check.noState("restore(0) of a new object", () -> x.restore(0));
        Check.noState("restore(1) of a new object", () -> x.restore(1));
        x.save(0);
        Check.noState("restore(1) with 0 saved", () -> x.restore(1));
        Check.is("restore(0)", x.restore(0), 0);
        x.append('h');
        Check.noState("load() that throws", x::load);
        Check.is("restore(0) behind it", x.restore(0), 0);
        x.clearText();
        x.append('H');
        x.load();
        Check.noState("restore(0) behind load()", () -> x.restore(0));
        x.save(1);
        Check.noState("restore(0) behind load() and save(1)", () -> x.restore(0));
        Check.is("restore(1) behind load() and save(1)", x.restore(1), 0);
    }
}
