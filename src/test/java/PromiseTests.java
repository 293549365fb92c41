/** Each promise by answers worked out by hand: ordinary inputs, the edges that the document names, wrong inputs. */
public final class PromiseTests {
    private static final int[] FAR = {Integer.MIN_VALUE, Integer.MAX_VALUE};

    private static int wrong = 0;

    private static void due(String call, int got, int want) {
        if (got != want) {
            wrong++;
            System.out.println(call + " answered " + got + ", due is " + want);
        }
    }

    private static void letters(PavedByNext x, String text) {
        for (int i = 0; i < text.length(); i++) {
            x.letter(text.charAt(i));
        }
    }

    private static int tell(PavedByNext x, String text) {
        letters(x, text);
        return x.town();
    }

    private static PavedByNext told(String text) {
        PavedByNext x = new PavedByNext();
        int statements = tell(x, text);
        if (statements < 0) {
            wrong++;
            System.out.println("the test's own town " + text + " answered " + statements);
        }
        return x;
    }

    private static void row(PavedByNext x, String digits) {
        for (int i = 0; i < digits.length(); i++) {
            x.row(digits.charAt(i) - '0');
        }
    }

    /** MUD of a street, year by year, by years that go by; and in mind just before them. */
    private static void muds(String town, int street, String muds) {
        PavedByNext x = told(town);
        for (int n = 0; n < muds.length(); n++) {
            due(town + " mud(" + street + ", " + n + ")", x.mud(street, n), muds.charAt(n) - '0');
        }
        for (int n = 0; n < muds.length(); n++) {
            due(town + " MUD in year " + n, x.street(street, 1), muds.charAt(n) - '0');
            x.year();
        }
    }

    public static void main(String[] args) {
        newObject();
        letter();
        townComes();
        townOnTop();
        townFormFaults();
        townSenseFaults();
        street();
        mends();
        pence();
        hands();
        yearByKinds();
        yearPence();
        year();
        mud();
        worst();
        again();
        way();
        ringTailRingsNever();
        felt();
        worth();
        bestMap();
        bestMapOfEach();
        change();
        cure();
        putIn();
        takeOut();
        rowAndJudge();
        fitting();
        seeds();
        imageAndOn();
        count();
        refusalsChangeNothing();
        System.out.println(wrong == 0 ? "all promises hold" : wrong + " answers are not as due");
        if (wrong != 0) {
            System.exit(1);
        }
    }

    private static void newObject() {
        PavedByNext x = new PavedByNext();
        for (int what = 0; what <= 5; what++) {
            due("1: count(" + what + ")", x.count(what), 0);
        }
        for (int what = 11; what <= 16; what++) {
            due("1: count(" + what + ")", x.count(what), 0);
        }
        due("1: ring()", x.ring(), 0);
        due("1: rings()", x.rings(), 0);
        due("1: never()", x.never(), 0);
        due("1: again()", x.again(), 1);
        due("1: judge()", x.judge(), -9);
        due("1: street(0, 0)", x.street(0, 0), -1);
        due("1: on()", x.on(), -3);
    }

    private static void letter() {
        PavedByNext x = new PavedByNext();
        due("2: letter(0)", x.letter(0), 1);
        due("2: letter(255)", x.letter(255), 2);
        due("2: letter(-1)", x.letter(-1), -4);
        due("2: letter(256)", x.letter(256), -6);
        due("2: letter(least)", x.letter(Integer.MIN_VALUE), -4);
        due("2: letter(greatest)", x.letter(Integer.MAX_VALUE), -6);
        due("2: letters", x.count(5), 2);
        for (int n = 3; n <= 64; n++) {
            due("2: letter " + n, x.letter('s'), n);
        }
        due("2: letter 65", x.letter('s'), -6);
        due("2: letter(-1) when there is no room", x.letter(-1), -4);
        due("2: letters", x.count(5), 64);
    }

    private static void townComes() {
        PavedByNext x = new PavedByNext();
        due("3: one street", tell(x, "sd312;"), 1);
        due("3: no letters are left", x.count(5), 0);
        due("3: it mends itself", x.street(0, 5), 0);
        due("3: two streets more and who mends", tell(x, "sl423;st500;m20;p1,07;p2,0;"), 5);
        due("3: streets", x.count(0), 3);
        due("3: 0 mends 1", x.street(0, 5), 1);
        due("3: 1 mends 2", x.street(1, 5), 2);
        due("3: 2 mends 0", x.street(2, 5), 0);
        due("3: pence of 0", x.street(0, 4), 9);
        due("3: pence of 1", x.street(1, 4), 7);
        due("3: pence of 2", x.street(2, 4), 0);
        due("3: pence of 2 digits", tell(x, "p2,99;"), 1);
        due("3: pence of 2", x.street(2, 4), 99);
        due("3: many statements", tell(x, "m00;m00;m00;m00;m00;m00;m00;m00;m00;m00;m00;m00;m00;m00;m00;m01;"), 16);
        due("3: the last of them holds", x.street(0, 5), 1);
        PavedByNext full = new PavedByNext();
        due("3: ten times six letters and m", tell(full, "sd000;sl000;st000;sw000;sm000;sc000;m54;p0,1;p1,2;p2,3;"), 10);
        for (int kind = 0; kind <= 5; kind++) {
            due("3: kind " + kind, full.street(kind, 0), kind);
        }
    }

    private static void townOnTop() {
        PavedByNext x = told("sd000;sd000;");
        x.mends(0, 0);
        x.mends(1, 1);
        tell(x, "sd000;");
        due("3: 1 mended itself and goes on", x.street(1, 5), 1);
        due("3: 2 mends 0", x.street(2, 5), 0);
        tell(x, "sd000;");
        due("3: 2 mended 0 and now 3", x.street(2, 5), 3);
        due("3: 0 is not the last", x.street(0, 5), 0);
        x.year();
        tell(x, "sd904;");
        due("3: a new one was not mended", x.street(4, 6), 0);
        due("3: YEAR goes on", x.count(1), 1);
        due("3: m00 before s", told("sd000;m00;sd000;").street(0, 5), 1);
        due("3: m11 before s", told("sd000;sd000;m11;sd000;").street(1, 5), 1);
        due("3: a street told behind an image", onceMoreStreet(), 1);
    }

    private static int onceMoreStreet() {
        PavedByNext x = new PavedByNext();
        x.image();
        tell(x, "sw333;m00;p0,3;");
        x.year();
        x.on();
        tell(x, "sd100;");
        due("3: kind of the first again", x.street(0, 0), 0);
        due("3: pence of the first again", x.street(0, 4), 9);
        due("3: mended of the first again", x.street(0, 6), 0);
        return x.street(0, 1);
    }

    private static void fault(String text, int want) {
        PavedByNext x = told("sd123;");
        due("3: town() of '" + text + "'", tell(x, text), want);
        due("3: streets behind '" + text + "'", x.count(0), 1);
        due("3: pence behind '" + text + "'", x.street(0, 4), 9);
        due("3: mends behind '" + text + "'", x.street(0, 5), 0);
        due("3: letters behind '" + text + "'", x.count(5), 0);
        for (int what = 11; what <= 16; what++) {
            due("3: refusals behind '" + text + "'", x.count(what), 0);
        }
    }

    private static void townFormFaults() {
        fault("", -1000);
        fault(";", -1000);
        fault("x", -1000);
        fault("d", -1000);
        fault("S", -1000);
        fault("s", -1001);
        fault("sx", -1001);
        fault("s0", -1001);
        fault("sd", -1002);
        fault("sd:", -1002);
        fault("sd/", -1002);
        fault("sd0", -1003);
        fault("sd00", -1004);
        fault("sd00;", -1004);
        fault("sd000", -1005);
        fault("sd0000;", -1005);
        fault("sd000,", -1005);
        fault("sd000;x", -1006);
        fault("sd000;;", -1006);
        fault("m", -1001);
        fault("ma", -1001);
        fault("m0", -1002);
        fault("m0;", -1002);
        fault("m00", -1003);
        fault("m000;", -1003);
        fault("p", -1001);
        fault("p,", -1001);
        fault("p0", -1002);
        fault("p0;", -1002);
        fault("p00,0;", -1002);
        fault("p0,", -1003);
        fault("p0,;", -1003);
        fault("p0,1", -1004);
        fault("p0,1,", -1004);
        fault("p0,12", -1005);
        fault("p0,123;", -1005);
        fault("sd000;sd000;m01;p1,5;s", -1022);
        fault("p0,5;m0\u00e90;", -1007);
        fault("m99;x", -1004);
        fault("m00;m00;m00;m00;m00;m00;m00;m00;m00;m00;m00;m00;m00;m00;m00;m000", -1063);
        fault("p0,1;m00;m00;m00;m00;m00;m00;m00;m00;m00;m00;m00;m00;m00;m00;m0", -1063);
        fault("p0,11;m00;m00;m00;m00;m00;m00;m00;m00;m00;m00;m00;m00;m00;m00;m0", -1064);
    }

    private static void townSenseFaults() {
        fault("sd040;", -2000);
        fault("sd005;", -2000);
        fault("sd099;", -2000);
        fault("p0,5;sd040;", -2005);
        fault("m10;", -2000);
        fault("m01;", -2000);
        fault("p1,5;", -2000);
        fault("p0,5;m00;m01;sd000;", -2009);
        fault("sd000;m02;sd000;", -2006);
        fault("sd000;p2,1;sd000;", -2006);
        fault("sd000;sd000;sd000;sd000;sd000;sd000;", -2030);
        fault("p0,5;m09;p9,0;", -2005);
        due("3: what was told ahead in the text is there", told("sd000;sd000;m11;p1,4;").street(1, 4), 4);
        due("3: greatest numbers", tell(new PavedByNext(), "sd934;"), 1);
    }

    private static void street() {
        PavedByNext x = told("sm934;sc120;m11;p1,42;");
        int[] first = {4, 9, 3, 4, 9, 1, 0, 0};
        int[] second = {5, 1, 2, 0, 42, 1, 0, 2};
        for (int what = 0; what <= 7; what++) {
            due("4: street(0, " + what + ")", x.street(0, what), first[what]);
            due("4: street(1, " + what + ")", x.street(1, what), second[what]);
        }
        x.year();
        due("4: MENDED is all that is mended there", x.street(1, 6), 8);
        due("4: MUD is 0 at least", x.street(1, 1), 0);
        due("4: MENDED of the other", x.street(0, 6), 0);
        due("4: street(2, 0)", x.street(2, 0), -1);
        due("4: street(-1, 0)", x.street(-1, 0), -1);
        due("4: street(6, 9)", x.street(6, 9), -1);
        due("4: street(0, 8)", x.street(0, 8), -2);
        due("4: street(0, -1)", x.street(0, -1), -2);
        for (int far : FAR) {
            due("4: a far street", x.street(far, 0), -1);
            due("4: a far what", x.street(0, far), -2);
        }
        due("4: refusals -1", x.count(11), 5);
        due("4: refusals -2", x.count(12), 4);
    }

    private static void mends() {
        PavedByNext x = told("sd000;sd000;sd000;");
        due("5: mends(0, 2)", x.mends(0, 2), 1);
        due("5: mends(0, 0)", x.mends(0, 0), 2);
        due("5: mends(0, 0)", x.mends(0, 0), 0);
        due("5: mends(3, 0)", x.mends(3, 0), -1);
        due("5: mends(0, 3)", x.mends(0, 3), -1);
        due("5: mends(-1, 0)", x.mends(-1, 0), -1);
        due("5: mends(0, -1)", x.mends(0, -1), -1);
        for (int far : FAR) {
            due("5: a far one", x.mends(far, 0), -1);
            due("5: a far other", x.mends(0, far), -1);
        }
        due("5: nothing changed", x.street(0, 5), 0);
        due("5: the others go on", x.street(1, 5), 2);
    }

    private static void pence() {
        PavedByNext x = told("sd000;sd000;");
        due("6: pence(0, 99)", x.pence(0, 99), 9);
        due("6: pence(0, 0)", x.pence(0, 0), 99);
        due("6: pence(0, 100)", x.pence(0, 100), -6);
        due("6: pence(0, -1)", x.pence(0, -1), -4);
        due("6: pence(2, -1)", x.pence(2, -1), -1);
        due("6: pence(-1, 0)", x.pence(-1, 0), -1);
        due("6: nothing changed", x.street(0, 4), 0);
        due("6: the other", x.street(1, 4), 9);
    }

    private static void hands() {
        PavedByNext x = told("sd000;sd003;");
        due("7: hands(0, 4)", x.hands(0, 4), 0);
        due("7: hands(0, 0)", x.hands(0, 0), 4);
        due("7: hands(0, 5)", x.hands(0, 5), -6);
        due("7: hands(0, -1)", x.hands(0, -1), -4);
        due("7: hands(2, -1)", x.hands(2, -1), -1);
        due("7: hands(-1, 0)", x.hands(-1, 0), -1);
        due("7: nothing changed", x.street(0, 3), 0);
        due("7: the other", x.street(1, 3), 3);
    }

    private static void yearByKinds() {
        muds("sd502;", 0, "53100");
        muds("sd830;", 0, "8999");
        muds("sd831;", 0, "8888");
        muds("sd013;", 0, "000");
        muds("sl902;", 0, "977553");
        muds("st904;", 0, "98630");
        muds("st901;", 0, "9876");
        muds("sw901;", 0, "9753");
        muds("sw901;p0,0;", 0, "9999");
        muds("sw900;", 0, "9876");
        muds("sm902;", 0, "9510");
        muds("sm900;", 0, "999");
        muds("sc904;", 0, "951");
        muds("sc604;", 0, "620");
        muds("sc504;", 0, "5420");
        muds("sc514;", 0, "5200");
        muds("sd903;st903;sd903;", 2, "9852");
        muds("sd903;sc003;sd503;", 2, "541");
        PavedByNext odd = told("sl902;");
        odd.year();
        due("8: a LAZY in a YEAR of odd number", odd.mud(0, 1), 7);
        due("8: and in the next", odd.mud(0, 2), 5);
    }

    private static void yearPence() {
        PavedByNext x = told("sw000;sd000;");
        x.year();
        due("8: she gave", x.street(0, 4), 8);
        due("8: to whom mends hers", x.street(1, 4), 10);
        x = told("sw000;p0,1;");
        x.year();
        due("8: to herself, too", x.street(0, 4), 1);
        x = told("sw000;p0,99;");
        x.year();
        due("8: all of 99 to herself", x.street(0, 4), 99);
        x = told("sw000;sd000;p1,99;");
        x.year();
        due("8: she gave", x.street(0, 4), 8);
        due("8: what is above 99 is lost", x.street(1, 4), 99);
        x = told("sw000;sd000;m11;");
        x.year();
        due("8: nobody mends hers", x.street(0, 4), 9);
        x = told("sw000;sd000;sd000;sd000;m22;m30;m20;");
        x.year();
        due("8: the least of several", x.street(2, 4), 10);
        due("8: not the greater", x.street(3, 4), 9);
        x = told("sw000;sw000;p0,1;p1,0;");
        x.year();
        due("8: she had none ahead of it", x.street(1, 4), 1);
        due("8: the other gave hers", x.street(0, 4), 0);
        x.year();
        due("8: back", x.street(0, 4), 1);
        x = told("sw000;sw000;p0,99;p1,99;");
        x.year();
        due("8: by numbers: lost at 99", x.street(1, 4), 98);
        due("8: by numbers: room is made", x.street(0, 4), 99);
        muds("sw000;sd900;p0,2;", 1, "98777");
        x = told("sd000;sl000;st000;sm000;sc000;");
        x.year();
        due("8: others give none", x.count(3), 45);
        due("8: nor among them", x.street(0, 4), 9);
    }

    private static void year() {
        PavedByNext x = told("sd312;sl423;st513;sw222;sm111;sc624;");
        due("8: year()", x.year(), 19);
        due("8: YEAR", x.count(1), 1);
        int[] muds = {3, 4, 3, 3, 0, 6};
        int[] mended = {1, 2, 3, 1, 3, 2};
        for (int street = 0; street < 6; street++) {
            due("8: MUD of " + street, x.street(street, 1), muds[street]);
            due("8: MENDED of " + street, x.street(street, 6), mended[street]);
        }
        PavedByNext none = new PavedByNext();
        due("8: year() without streets", none.year(), 0);
        due("8: YEAR without streets", none.count(1), 1);
        PavedByNext shared = told("sd002;sd003;sd901;m02;m12;m22;");
        due("8: all mend at once", shared.year(), 3);
        due("8: all that is mended there", shared.street(2, 6), 6);
    }

    private static void mud() {
        PavedByNext x = told("sd911;sd122;");
        due("9: mud(-1, 0)", x.mud(-1, 0), 10);
        due("9: mud(0, 0)", x.mud(0, 0), 9);
        due("9: mud(1, 0)", x.mud(1, 0), 1);
        due("9: mud(0, 1)", x.mud(0, 1), 7);
        due("9: mud(1, 1)", x.mud(1, 1), 2);
        due("9: mud(-1, 1)", x.mud(-1, 1), 9);
        due("9: mud(0, 60)", x.mud(0, 60), 0);
        due("9: mud(1, 60)", x.mud(1, 60), 8);
        due("9: mud(0, 61)", x.mud(0, 61), -6);
        due("9: mud(0, -1)", x.mud(0, -1), -4);
        due("9: mud(2, -1)", x.mud(2, -1), -1);
        due("9: mud(-2, 61)", x.mud(-2, 61), -1);
        for (int far : FAR) {
            due("9: a far street", x.mud(far, 0), -1);
        }
        due("9: YEAR is as it was", x.count(1), 0);
        due("9: MUD is as it was", x.count(2), 10);
        due("9: MENDED is as it was", x.street(1, 6), 0);
        due("9: without streets", new PavedByNext().mud(-1, 60), 0);
    }

    private static void worst() {
        PavedByNext x = told("sd500;sd700;sd700;sd800;m33;m02;");
        x.hands(3, 2);
        due("10: worst(0, 0)", x.worst(0, 0), 8);
        due("10: worst(0, 1)", x.worst(0, 1), 3);
        due("10: worst(1, 0)", x.worst(1, 0), 7);
        due("10: worst(1, 1), of several the least", x.worst(1, 1), 1);
        due("10: worst(60, 0)", x.worst(60, 0), 7);
        due("10: worst(60, 1)", x.worst(60, 1), 1);
        due("10: worst(61, 2)", x.worst(61, 2), -6);
        due("10: worst(-1, 2)", x.worst(-1, 2), -4);
        due("10: worst(0, 2)", x.worst(0, 2), -2);
        due("10: worst(0, -1)", x.worst(0, -1), -2);
        due("10: none, MUD", new PavedByNext().worst(3, 0), 0);
        due("10: none, street", new PavedByNext().worst(3, 1), -9);
        due("10: all 0", told("sd000;sd000;").worst(0, 1), 0);
    }

    private static void again() {
        due("11: at rest", told("sd302;").again(), 1);
        due("11: every other YEAR", told("sl912;").again(), 2);
        due("11: MENDED alone is unlike", told("sl002;").again(), 2);
        due("11: her last penny goes in the 40th YEAR", told("sw000;sd900;p0,40;").again(), -9);
        due("11: and in the 39th", told("sw000;sd900;p0,39;").again(), 1);
        due("11: and in the 41st", told("sw000;sd900;p0,41;").again(), 1);
        PavedByNext x = told("sl912;");
        x.again();
        due("11: YEAR is as it was", x.count(1), 0);
        x.hands(0, 0);
        due("11: as it is now", x.again(), 1);
    }

    private static void way() {
        PavedByNext x = told("sd000;sd000;sd000;sd000;sd000;sd000;");
        due("12: way(0, 5)", x.way(0, 5), 5);
        due("12: way(5, 0)", x.way(5, 0), 1);
        due("12: way(2, 2)", x.way(2, 2), 0);
        x.mends(5, 2);
        due("12: way(0, 5) over the tail", x.way(0, 5), 5);
        due("12: way(5, 4)", x.way(5, 4), 3);
        due("12: way(2, 0)", x.way(2, 0), -9);
        due("12: way(0, 0)", x.way(0, 0), 0);
        due("12: way(6, 0)", x.way(6, 0), -1);
        due("12: way(0, 6)", x.way(0, 6), -1);
        due("12: way(-1, 0)", x.way(-1, 0), -1);
        due("12: way(0, -1)", x.way(0, -1), -1);
    }

    private static void ringTailRingsNever() {
        PavedByNext x = told("sd000;sd000;sd000;sd000;sd000;sd000;");
        due("13: one ring of all", x.ring(), 63);
        due("15: one ring of all", x.rings(), 1);
        due("16: one ring of all", x.never(), 0);
        x.mends(5, 2);
        due("13: ring of 2 to 5", x.ring(), 60);
        due("14: tail(0)", x.tail(0), 2);
        due("14: tail(1)", x.tail(1), 1);
        due("14: tail(2)", x.tail(2), 0);
        due("14: tail(5)", x.tail(5), 0);
        due("15: ring of 2 to 5", x.rings(), 1);
        due("16: nobody mends 0", x.never(), 1);
        x.mends(3, 3);
        x.mends(2, 2);
        due("13: two by themselves", x.ring(), 12);
        due("14: tail(5) by 2", x.tail(5), 1);
        due("14: tail(4) by 5 and 2", x.tail(4), 2);
        due("15: two by themselves", x.rings(), 2);
        due("16: nobody mends 0 and 4", x.never(), 17);
        x.mends(0, 1);
        x.mends(1, 0);
        x.mends(4, 5);
        x.mends(5, 4);
        due("13: two pairs and two by themselves", x.ring(), 63);
        due("15: two pairs and two by themselves", x.rings(), 4);
        PavedByNext line = told("sd000;sd000;sd000;sd000;sd000;sd000;m55;");
        due("14: the longest tail", line.tail(0), 5);
        due("13: the ring at its end", line.ring(), 32);
        due("14: tail(6)", line.tail(6), -1);
        due("14: tail(-1)", line.tail(-1), -1);
        for (int far : FAR) {
            due("14: a far street", line.tail(far), -1);
        }
    }

    private static void felt() {
        PavedByNext x = told("sd903;st903;sd903;");
        due("17: felt(0, 1)", x.felt(0, 1), 1);
        due("17: felt(0, 2) by one who trusts", x.felt(0, 2), 2);
        due("17: felt(0, 0)", x.felt(0, 0), -9);
        due("17: felt(2, 0)", x.felt(2, 0), 1);
        due("17: felt(3, 0)", x.felt(3, 0), -1);
        due("17: felt(0, 3)", x.felt(0, 3), -1);
        due("17: felt(-1, 0)", x.felt(-1, 0), -1);
        due("17: felt(0, -1)", x.felt(0, -1), -1);
        due("17: her own", told("sd901;").felt(0, 0), 1);
        due("17: no mud", told("sd003;").felt(0, 0), -9);
        due("17: in the 40th YEAR", told("sw000;sd001;sd010;m02;m12;m20;p0,39;").felt(1, 2), 40);
        due("17: in the 41st", told("sw000;sd001;sd010;m02;m12;m20;p0,40;").felt(1, 2), -9);
        due("17: YEAR is as it was", x.count(1), 0);
        due("17: who lazed in mind mends else", x.mud(2, 2), 5);
        x.year();
        due("17: from now on", x.felt(0, 2), 2);
    }

    private static void worth() {
        PavedByNext x = told("sd902;sd901;");
        due("18: worth(0, 0)", x.worth(0, 0), 0);
        due("18: worth(0, 1)", x.worth(0, 1), 2);
        due("18: worth(1, 3)", x.worth(1, 3), 3);
        due("18: worth(0, 60)", x.worth(0, 60), 9);
        due("18: below 0", told("sd221;sc004;").worth(0, 3), -1);
        due("18: a lazy WIDOW pays", told("sw900;sw000;sd000;m02;m10;m21;p1,1;").worth(0, 3), 0);
        due("18: worth(0, 61)", x.worth(0, 61), 1000000006);
        due("18: worth(0, -1)", x.worth(0, -1), 1000000004);
        due("18: worth(2, -1)", x.worth(2, -1), 1000000001);
        due("18: worth(-1, 0)", x.worth(-1, 0), 1000000001);
        due("18: refusals -1", x.count(11), 2);
        due("18: refusals -4", x.count(14), 1);
        due("18: refusals -6", x.count(16), 1);
        due("18: who lazed mends", x.year(), 15);
    }

    private static void bestMap() {
        PavedByNext x = told("sd901;sd304;m00;m11;");
        due("19: bestMap(1, -1)", x.bestMap(1, -1), 7);
        due("19: bestMap(1, 0)", x.bestMap(1, 0), 1);
        due("19: bestMap(1, 1)", x.bestMap(1, 1), 0);
        due("19: bestMap(30, -1)", x.bestMap(30, -1), 0);
        due("19: bestMap(30, 0), of several the first", x.bestMap(30, 0), 0);
        due("19: they mend as they did", x.street(0, 5), 0);
        due("19: YEAR is as it was", x.count(1), 0);
        due("19: bestMap(0, -1)", x.bestMap(0, -1), -4);
        due("19: bestMap(31, -1)", x.bestMap(31, -1), -6);
        due("19: bestMap(0, 2)", x.bestMap(0, 2), -1);
        due("19: bestMap(31, -2)", x.bestMap(31, -2), -1);
        PavedByNext three = told("sd003;sd001;sd901;");
        int[] best = {2, 0, 1};
        for (int street = 0; street < 3; street++) {
            due("19: the first of two, " + street, three.bestMap(1, street), best[street]);
        }
        due("19: its MUD", three.bestMap(1, -1), 6);
        PavedByNext six = told("sd000;sd101;sd202;sd303;sd404;sd504;");
        due("19: of six", six.bestMap(1, -1), 1);
        due("19: the first of six", six.bestMap(1, 0), 0);
        due("19: the last of six", six.bestMap(1, 5), 5);
        PavedByNext back = told("sd504;sd404;sd303;sd202;sd101;sd000;");
        due("19: of six the other way", back.bestMap(1, -1), 1);
        PavedByNext turned = told("sd900;sd701;sd502;sd303;sd104;sd004;");
        int[] turnedMap = {5, 4, 3, 2, 0, 1};
        for (int street = 0; street < 6; street++) {
            due("19: turned, " + street, turned.bestMap(2, street), turnedMap[street]);
        }
        due("19: turned", turned.bestMap(2, -1), 1);
        due("19: just one mends each", told("sd904;sd900;m10;").bestMap(1, -1), 14);
        due("19: without streets", new PavedByNext().bestMap(1, -1), 0);
        due("19: without streets whom", new PavedByNext().bestMap(1, 0), -1);
    }

    /** Dwellers mend 0, 1, .. 5 of one YEAR, and MUD is set so that just one map leaves none. */
    private static void bestMapOfEach() {
        for (int code = 0; code < 46656; code++) {
            int[] map = new int[6];
            int met = 0;
            for (int street = 0, rest = code; street < 6; street++, rest /= 6) {
                map[street] = rest % 6;
                met |= 1 << map[street];
            }
            if (met == 63) {
                bestMapIs(map);
            }
        }
    }

    private static void bestMapIs(int[] map) {
        int[] mud = new int[6];
        StringBuilder name = new StringBuilder();
        for (int street = 0; street < 6; street++) {
            mud[map[street]] = street;
            name.append(map[street]);
        }
        StringBuilder town = new StringBuilder();
        for (int street = 0; street < 6; street++) {
            town.append(street == 5 ? "sw" : "sd").append(mud[street]).append(0).append(Math.min(street, 4)).append(';');
        }
        PavedByNext x = told(town.toString());
        due("19: MUD by " + name, x.bestMap(1, -1), 0);
        for (int street = 0; street < 6; street++) {
            due("19: whom by " + name, x.bestMap(1, street), map[street]);
        }
    }

    private static void change() {
        PavedByNext x = told("sd901;sd304;m00;m11;");
        x.mud(-1, 30);
        due("20: change(1)", x.change(1), 10);
        due("20: they mend as they did", x.street(1, 5), 1);
        due("20: of several the least", told("sd900;sd002;sd002;m00;m11;m22;").change(1), 10);
        due("20: less in the end, not than MUD is", told("sd021;sd021;").change(10), 0);
        due("20: nothing is better", told("sd021;sd021;").change(1), -9);
        due("20: one street", told("sd901;").change(5), -9);
        due("20: to a greater street", told("sd002;sd900;m00;m11;").change(30), 1);
        due("20: change(0)", x.change(0), -4);
        due("20: change(31)", x.change(31), -6);
        due("20: without streets", new PavedByNext().change(30), -9);
    }

    private static void cure() {
        PavedByNext x = told("sd902;");
        due("21: cure(0, 1)", x.cure(0, 1), 4);
        due("21: he is who he was", x.street(0, 0), 0);
        due("21: of several the first", told("sc000;").cure(0, 30), 0);
        due("21: no hands but pence", told("sd900;").cure(0, 3), 3);
        due("21: neither", told("sm900;p0,0;").cure(0, 3), 0);
        due("21: TRUST lets another care", told("st221;sc004;").cure(0, 3), 3);
        due("21: cure(1, 0)", x.cure(1, 0), -1);
        due("21: cure(-1, 31)", x.cure(-1, 31), -1);
        due("21: cure(0, 0)", x.cure(0, 0), -4);
        due("21: cure(0, 31)", x.cure(0, 31), -6);
    }

    private static void putIn() {
        PavedByNext x = told("sd901;sd304;");
        due("22: putIn(0, 2, 1)", x.putIn(0, 2, 1), 6);
        due("22: putIn(0, 2, 2)", x.putIn(0, 2, 2), 1);
        due("22: putIn(1, 0, 1)", x.putIn(1, 0, 1), 11);
        due("22: putIn(1, 4, 30)", x.putIn(1, 4, 30), 0);
        due("22: behind one who mends his own", told("sd904;").putIn(0, 1, 2), 7);
        due("22: one who trusts is not mended", told("sd003;st003;sd903;").putIn(0, 0, 3), 6);
        due("22: there are as many as were", x.count(0), 2);
        due("22: he mends whom he did", x.street(0, 5), 1);
        due("22: putIn(2, -1, 0)", x.putIn(2, -1, 0), -1);
        due("22: putIn(-1, 0, 1)", x.putIn(-1, 0, 1), -1);
        due("22: putIn(0, -1, 31)", x.putIn(0, -1, 31), -4);
        due("22: putIn(0, 5, 0)", x.putIn(0, 5, 0), -4);
        due("22: putIn(0, 5, 1)", x.putIn(0, 5, 1), -6);
        due("22: putIn(0, 0, 31)", x.putIn(0, 0, 31), -6);
        PavedByNext full = told("sd000;sd000;sd000;sd000;sd000;sd000;");
        due("22: no room", full.putIn(0, 0, 1), -6);
        due("22: no room, but first n", full.putIn(0, 0, 0), -4);
        due("22: room for a sixth", told("sd900;sd000;sd000;sd000;sd000;").putIn(4, 3, 1), 6);
    }

    private static void takeOut() {
        PavedByNext x = told("sd911;sd304;sd512;");
        due("23: takeOut(1, 1)", x.takeOut(1, 1), 12);
        due("23: takeOut(0, 1)", x.takeOut(0, 1), 3);
        due("23: takeOut(0, 30)", x.takeOut(0, 30), 0);
        due("23: he lives there", x.mud(1, 1), 2);
        due("23: mends are as they were", x.street(0, 5), 1);
        due("23: who mends it mends on", told("sd001;sd904;m00;m10;").takeOut(0, 2), 9);
        due("23: nor is paid", told("sd000;sw900;sw000;m01;m12;m21;p2,1;").takeOut(0, 3), 6);
        due("23: nor pays", told("sw000;sw000;sd900;m02;m12;m21;p1,1;").takeOut(0, 3), 8);
        due("23: a gone WIDOW does not keep another", told("sw000;sw000;sd900;m01;m12;m20;m10;p1,1;").takeOut(0, 2), 9);
        due("23: the only one", told("sd934;").takeOut(0, 1), 0);
        due("23: takeOut(3, 0)", x.takeOut(3, 0), -1);
        due("23: takeOut(-1, 1)", x.takeOut(-1, 1), -1);
        due("23: takeOut(0, 0)", x.takeOut(0, 0), -4);
        due("23: takeOut(0, 31)", x.takeOut(0, 31), -6);
    }

    private static void rowAndJudge() {
        PavedByNext x = told("sd300;sd500;sd700;");
        due("24: row(9)", x.row(9), 1);
        due("24: row(0)", x.row(0), 2);
        due("24: row(10)", x.row(10), -6);
        due("24: row(-1)", x.row(-1), -4);
        due("24: in the ROW", x.count(4), 2);
        for (int n = 3; n <= 6; n++) {
            due("24: row " + n, x.row(1), n);
        }
        due("24: row 7", x.row(1), -6);
        due("24: row(-1) when there is no room", x.row(-1), -4);
        due("26: the first is unlike", x.judge(), 0);
        due("26: the ROW has none", x.count(4), 0);
        row(x, "357");
        due("26: all alike", x.judge(), -9);
        due("26: the ROW has none then, too", x.count(4), 0);
        row(x, "35");
        due("26: too short", x.judge(), 2);
        due("26: none told", x.judge(), 0);
        row(x, "3572");
        due("26: too long", x.judge(), 3);
        row(x, "347");
        due("26: the second is unlike", x.judge(), 1);
        row(x, "34");
        due("26: too short and unlike", x.judge(), 1);
        row(x, "358999");
        due("26: too long and unlike", x.judge(), 2);
        x.hands(2, 3);
        x.year();
        row(x, "057");
        due("26: as it is told now", x.judge(), -9);
    }

    private static void fitting() {
        PavedByNext x = told("sm902;");
        due("25: no ROW", x.fitting(0, 1), -3);
        row(x, "7");
        due("25: d, l and c", x.fitting(0, 1), 35);
        due("25: the ROW stays", x.count(4), 1);
        due("25: l, and t, behind 2", x.fitting(0, 2), 2);
        due("25: he is who he was", x.street(0, 0), 4);
        due("25: fitting(1, 0)", x.fitting(1, 0), -1);
        due("25: fitting(-1, 0)", x.fitting(-1, 0), -1);
        due("25: fitting(0, 0)", x.fitting(0, 0), -4);
        due("25: fitting(0, 31)", x.fitting(0, 31), -6);
        row(x, "0");
        due("25: too long", x.fitting(0, 1), -3);
        due("25: too long, but first n", x.fitting(0, 0), -4);
        PavedByNext two = told("sd002;sd902;");
        row(two, "07");
        due("25: the other is as told", two.fitting(0, 1), 35);
        due("25: of the other any", two.fitting(1, 1), 63);
        two.judge();
        row(two, "17");
        due("25: nobody", two.fitting(0, 1), 0);
        PavedByNext own = told("sd900;");
        row(own, "8");
        due("25: a WIDOW alone", own.fitting(0, 1), 8);
        PavedByNext zero = told("sd200;");
        row(zero, "2");
        due("25: all but the WIDOW", zero.fitting(0, 30), 55);
    }

    private static void seeds() {
        PavedByNext x = told("sd000;");
        int[] muds = {3, 4, 6, 9, 9};
        for (int n = 1; n <= 5; n++) {
            due("27: seeds(" + n + ", 0)", x.seeds(n, 0), muds[n - 1]);
        }
        PavedByNext two = told("sd000;sd000;");
        due("27: by numbers", two.seeds(1, 0), 4);
        due("27: YEAR by YEAR", two.seeds(2, 0), 9);
        PavedByNext mended = told("sd031;");
        due("27: WEAR is drawn ahead of each", mended.seeds(1, 0), 2);
        due("27: four of them", mended.seeds(4, 0), 5);
        due("27: from another seed", x.seeds(1, 1013904223), 1);
        due("27: a seed below 0", x.seeds(1, 0xAAF95334), 1);
        due("27: wear is as it was", mended.street(0, 2), 3);
        due("27: YEAR is as it was", mended.count(1), 0);
        due("27: seeds(0, 0)", x.seeds(0, 0), -4);
        due("27: seeds(31, 0)", x.seeds(31, 0), -6);
        due("27: seeds(30, 0)", x.seeds(30, 0), 9);
        due("27: without streets", new PavedByNext().seeds(30, 5), 0);
    }

    private static void imageAndOn() {
        PavedByNext x = told("sw512;sm913;p0,7;");
        due("29: on()", x.on(), -3);
        x.year();
        due("28: image()", x.image(), 1);
        int[][] then = new int[2][8];
        for (int what = 0; what <= 7; what++) {
            then[0][what] = x.street(0, what);
            then[1][what] = x.street(1, what);
        }
        row(x, "12");
        letters(x, "sd");
        x.mends(0, 0);
        x.hands(0, 4);
        x.pence(1, 50);
        x.year();
        x.town();
        tell(x, "sd000;");
        letters(x, "m00");
        x.street(9, 9);
        for (int times = 0; times < 2; times++) {
            due("29: on()", x.on(), 1);
            due("29: streets", x.count(0), 2);
            due("29: YEAR", x.count(1), 1);
            for (int what = 0; what <= 7; what++) {
                due("29: street(0, " + what + ")", x.street(0, what), then[0][what]);
                due("29: street(1, " + what + ")", x.street(1, what), then[1][what]);
            }
            due("29: the ROW stays", x.count(4), 2);
            due("29: the letters stay", x.count(5), 3);
            due("29: the REFUSALS stay", x.count(11), 1);
            due("29: the REFUSALS stay", x.count(13), 1);
            x.year();
            x.mends(1, 1);
        }
        due("28: a later image", x.image(), 2);
        x.year();
        due("29: on() from it", x.on(), 2);
        due("29: what it had", x.street(1, 5), 1);
    }

    private static void count() {
        PavedByNext x = told("sd100;sd200;sd300;");
        x.pence(2, 99);
        x.year();
        row(x, "11");
        letters(x, "xyz!");
        int[] whats = {3, 1, 6, 117, 2, 4};
        for (int what = 0; what <= 5; what++) {
            due("30: count(" + what + ")", x.count(what), whats[what]);
        }
        x.street(7, 0);
        x.street(0, 9);
        x.street(0, 9);
        for (int times = 0; times < 3; times++) {
            x.on();
        }
        for (int times = 0; times < 4; times++) {
            x.letter(-1);
        }
        for (int times = 0; times < 5; times++) {
            x.letter(256);
        }
        int[] refusals = {1, 2, 3, 4, 0, 5};
        for (int which = 0; which < 6; which++) {
            due("30: count(" + (11 + which) + ")", x.count(11 + which), refusals[which]);
        }
        int[] others = {-1, 6, 7, 10, 17, 100, Integer.MIN_VALUE, Integer.MAX_VALUE, Integer.MIN_VALUE + 9};
        for (int what : others) {
            due("30: count(" + what + ")", x.count(what), -9);
        }
        due("30: -9 is no refusal", x.count(12), 2);
    }

    private static String all(PavedByNext x) {
        StringBuilder text = new StringBuilder();
        for (int what = 0; what <= 5; what++) {
            text.append(x.count(what)).append(' ');
        }
        for (int street = 0; street < x.count(0); street++) {
            for (int what = 0; what <= 7; what++) {
                text.append(x.street(street, what)).append(' ');
            }
        }
        return text.toString();
    }

    private static void refusalsChangeNothing() {
        PavedByNext x = told("sw512;sm913;p0,7;");
        x.year();
        row(x, "12");
        letters(x, "sd");
        String before = all(x);
        for (int far : FAR) {
            int[] refused = {x.letter(far), x.street(far, far), x.mends(far, 0), x.mends(0, far), x.pence(far, 1),
                x.pence(0, far), x.hands(far, 1), x.hands(0, far), x.mud(far, 1), x.mud(0, far), x.worst(far, 0),
                x.worst(0, far), x.way(far, far), x.tail(far), x.felt(far, far), x.bestMap(far, 0), x.bestMap(1, far),
                x.change(far), x.cure(far, far), x.cure(0, far), x.putIn(far, 0, 1), x.putIn(0, far, 1),
                x.putIn(0, 0, far), x.takeOut(far, 1), x.takeOut(0, far), x.row(far), x.fitting(far, 1),
                x.fitting(0, far), x.seeds(far, far), x.on()};
            for (int i = 0; i < refused.length; i++) {
                due("refusal " + i + " of " + far + " is one", refused[i] < 0 ? 1 : 0, 1);
            }
            due("worth is refused", x.worth(far, far) > 1000000000 ? 1 : 0, 1);
        }
        due("all is as it was", all(x).equals(before) ? 1 : 0, 1);
        due("all refusals are counted", x.count(11) + x.count(12) + x.count(13) + x.count(14) + x.count(16), 62);
    }
}
