/** Terms 2, sentence by sentence: where each token ends, each FAULT's place, what wraps around, what counts last. */
public final class BoundsOfTextsTest {
    private static final int NONE = -1, BAD = -2, FULL = -4;
    private static final long NO = -4611686018427387904L;
    private static final int LOW = Integer.MIN_VALUE, HIGH = Integer.MAX_VALUE;
    private static final String REST = ";may 1;value 1;";
    private static final String GOOD = "first 1;may 1;value 1;";
    /** These come to the greatest int and to the least one. */
    private static final String GREATEST = "(9999*9999*21+9999*4790+8416)", LEAST = "(0-9999*9999*21-9999*4790-8417)";

    private BoundsOfTextsTest() {
    }

    public static void main(String[] args) {
        tape();
        lowestBytes();
        eachByte();
        tokensAsLongAsCanBe();
        words();
        numbers();
        blanks();
        textParts();
        grammarOfE();
        grammarOfNot();
        wraps();
        truth();
        endsTooEarly();
        firstFault();
        openOnes();
        openOnesEnd();
        openOnesOfAllSorts();
        sixTexts();
        manyFaults();
        textZero();
        namesOfABook();
        force();
        goesFirst();
        goesFirstWithoutWrap();
        valueBelow0();
        lostIsCut();
        trials();
        barredAsKnown();
        Check.end("BoundsOfTextsTest");
    }

    private static void due(String call, long got, long want) {
        Check.due(call, got, want);
    }

    private static void fault(String text, int place) {
        MudLibrary x = new MudLibrary();
        due("the FAULT of \"" + text + "\"", Check.text(x, text), -100 - place);
        due("TEXTS behind \"" + text + "\"", x.count(2), 1);
        due("THE TAPE behind \"" + text + "\"", x.count(3), 0);
    }

    private static void good(String text) {
        due("the number of \"" + text + "\"", Check.text(new MudLibrary(), text), 1);
    }

    /** The FAULT of an E, counted from its first byte. */
    private static void faultInE(String e, int place) {
        fault("first " + e + REST, 6 + place);
        fault("first 1;may " + e + ";value 1;", 12 + place);
        fault("first 1;may 1;value " + e + ";", 20 + place);
    }

    private static void goodE(String e) {
        good("first " + e + REST);
        good("first 1;may " + e + ";value " + e + ";");
    }

    private static void comesTo(String e, long want) {
        for (int part = 0; part < 3; part++) {
            MudLibrary x = Check.withBooks(1, 1);
            due("\"" + e + "\" is a good one", Check.rule(x, part == 0 ? e : "7", part == 1 ? e : "7", part == 2 ? e : "7"), 1);
            for (int of = 0; of < 3; of++) {
                due("\"" + e + "\" in part " + part + ": " + of, x.says(0, of), of == part ? want : 7);
            }
        }
    }

    private static void tape() {
        Check.sentence("THE TAPE (160 bytes at most)");
        MudLibrary x = new MudLibrary();
        for (int k = 1; k <= 20; k++) {
            due("8 bytes more", x.feed(8, 0x2020202020202020L), 8 * k);
        }
        for (int n = 1; n <= 8; n++) {
            due("feed(" + n + ") of a full one", x.feed(n, 0), FULL);
        }
        due("BAD ahead of FULL, 0", x.feed(0, 0), BAD);
        due("BAD ahead of FULL, 9", x.feed(9, 0), BAD);
        due("how many", x.count(3), 160);
        due("160 blanks", x.text(), -260);
        for (int room = 1; room <= 7; room++) {
            x = new MudLibrary();
            Check.feed(x, " ".repeat(160 - room));
            due("one byte too many for " + room, x.feed(room + 1, 0), FULL);
            due("how many still", x.count(3), 160 - room);
            due("as many as have room", x.feed(room, 0), 160);
            due("what was refused isn't there", x.text(), -100 - (160 - room));
        }
        for (int n : new int[] {0, 9, -1, 16, LOW, HIGH}) {
            due("feed(" + n + ")", x.feed(n, 0x2020L), BAD);
        }
        due("empty", x.count(3), 0);
        due("a TEXT of 160 bytes", Check.text(x, GOOD.substring(0, 21) + " ".repeat(138) + ";"), 1);
    }

    private static void lowestBytes() {
        Check.sentence("The n lowest bytes of a number, the lowest first, come behind THE TAPE");
        for (int n = 1; n <= 8; n++) {
            MudLibrary x = new MudLibrary();
            Check.feed(x, "first 1" + REST + " ".repeat(8 - n));
            // The highest byte of these n is no token, those ahead of it are blanks; those above are left away.
            long bytes = 0x2020202020202020L & ~(255L << 8 * (n - 1)) | 0x3fL << 8 * (n - 1);
            due("feed(" + n + ")", x.feed(n, bytes), 30);
            due("the highest of " + n, x.text(), -129);
        }
        MudLibrary x = new MudLibrary();
        due("3 of 8", x.feed(3, 0x3f3f3f3f3f202020L), 3);
        due("the others are left away", x.text(), -103);
        due("a byte of 255", x.feed(8, -1), 8);
        due("it begins no TOKEN", x.text(), -100);
        due("behind what it has", x.feed(1, 'f') + 10 * x.feed(4, 't' << 24 | 's' << 16 | 'r' << 8 | 'i'), 51);
        due("it is behind", Check.text(x, " 1" + REST), 1);
    }

    private static void eachByte() {
        Check.sentence("FAULT: also of a byte that begins none; TOKENS: WORDS (a .. z), NUMBERS, SIGNS ( ) ; + - * < = ; blanks (32, 10)");
        for (int b = 0; b < 256; b++) {
            String text = "first 1" + (char) b + REST;
            if (b == 32 || b == 10 || b >= '0' && b <= '9') {
                good(text);
            } else if (b == '+' || b == '-' || b == '*' || b == '<' || b == '=' || b == ';') {
                fault(text, 8);
            } else {
                fault(text, 7);
            }
            boolean alone = b == 32 || b == 10;
            fault(String.valueOf((char) b), alone ? 1 : 0);
        }
    }

    private static void tokensAsLongAsCanBe() {
        Check.sentence("TOKENS, each as long as can be");
        fault("firstmould" + REST, 0);
        fault("fir st 1" + REST, 0);
        fault("first 1;mayink;value 1;", 8);
        faultInE("mouldink", 0);
        faultInE("mould ink", 6);
        faultInE("12 34", 3);
        goodE("not1or2");
        goodE("1or2");
        faultInE("1 orink", 2);
        fault("first 1 ormay 1;value 1;", 8);
        faultInE("notink", 0);
        goodE("not ink");
        good("first(1);may(1)or(2);value-1;");
    }

    private static void words() {
        Check.sentence("a WORD that is neither KEY nor NAME");
        String[] names = {"mould", "ink", "paper", "worth", "age", "size"};
        for (String name : names) {
            goodE(name);
            faultInE(name + "s", 0);
            faultInE(name.substring(1), 0);
            faultInE(name.substring(0, name.length() - 1), 0);
            faultInE("1+" + name.toUpperCase(), 2);
            for (int k = 0; k < name.length(); k++) {
                faultInE(name.substring(0, k) + "x" + name.substring(k + 1), 0);
            }
            faultInE(name + " " + name, name.length() + 1);
        }
        for (String key : new String[] {"first", "may", "value", "or", "and"}) {
            faultInE(key, 0);
            faultInE("1 " + key + "s", 2);
            faultInE("1+" + key, 2);
            for (int k = 0; k < key.length(); k++) {
                faultInE("1 " + key.substring(0, k) + "x" + key.substring(k + 1) + " 1", 2);
            }
        }
        for (String word : new String[] {"firs", "firsts", "frist", "a", "z", "abcdefghijklmnopqrstuvwxyz", "m", "o"}) {
            fault(word + " 1" + REST, 0);
            faultInE(word, 0);
        }
        for (String key : new String[] {"not ", "-", "("}) {
            faultInE(key + "x1", key.length());
            faultInE(key + "x(1)", key.length());
            faultInE(key + "x 1)", key.length());
            faultInE(key + "12345", key.length());
            faultInE(key + "?1", key.length());
        }
        fault("xirst 1;may 1;value 1;", 0);
        fault("first 1;xay 1;value 1;", 8);
        fault("first 1;may 1;xalue 1;", 14);
        fault("first 1;ma 1;value 1;", 8);
        fault("first 1;may 1;values 1;", 14);
        faultInE("moul{", 0);
        faultInE("`ink", 0);
        faultInE("ink`", 3);
        faultInE("ink{", 3);
    }

    private static void numbers() {
        Check.sentence("NUMBERS (as many digits as stand there, 4 at most); FAULT: a NUMBER that is too long");
        for (String number : new String[] {"0", "9", "00", "99", "000", "999", "0000", "9999", "0042"}) {
            comesTo(number, Integer.parseInt(number));
        }
        for (String number : new String[] {"00000", "10000", "99999", "123456789", "0".repeat(100)}) {
            fault("first " + number + REST, 6);
        }
        faultInE("1+12345", 2);
        faultInE("12345+1", 0);
        faultInE("1 12345", 2);
        faultInE("1234 5", 5);
        faultInE("1234ink", 4);
        faultInE("1:", 1);
        faultInE("1/", 1);
    }

    private static void blanks() {
        Check.sentence("blanks (32, 10) may stand between");
        good(" first 1;may 1;value 1;");
        good("\nfirst 1;may 1;value 1;\n");
        good("first\n1\n;\n\nmay  1 ; value \n 1 ; ");
        good("first(1);may-1;value(1);");
        for (char c : new char[] {0, 1, 9, 11, 12, 13, 31, 33, 127, 160, 255}) {
            fault("first" + c + "1" + REST, 5);
            fault(GOOD + c, 22);
        }
    }

    private static void textParts() {
        Check.sentence("TEXT: first E ; may E ; value E ;");
        good(GOOD);
        fault("", 0);
        fault("1;may 1;value 1;", 0);
        fault("may 1;first 1;value 1;", 0);
        fault("first 1;first 1;value 1;", 8);
        fault("first 1;value 1;may 1;", 8);
        fault("first 1;may 1;may 1;", 14);
        fault("first 1 may 1;value 1;", 8);
        fault("first 1;may 1 value 1;", 14);
        fault("first 1;may 1;value 1", 21);
        fault("first;may 1;value 1;", 5);
        fault("first 1;may;value 1;", 11);
        fault("first 1;may 1;value;", 19);
        fault("first 1;;may 1;value 1;", 8);
        fault(GOOD + ";", 22);
        fault(GOOD + " first", 23);
        fault(GOOD + "1", 22);
        fault(GOOD + " ?", 23);
        good(GOOD + " \n ");
    }

    private static void grammarOfE() {
        Check.sentence("E: AND { or AND }. AND: NOT { and NOT }. SUM: TERM { + or - TERM }. TERM: ONE { * ONE }");
        comesTo("0 or 0 or 0", 0);
        comesTo("0 or 0 or 3", 1);
        comesTo("1 or 1 and 0", 1);
        comesTo("0 and 1 or 1", 1);
        comesTo("1 and 1 and 0", 0);
        comesTo("1 and 2 and 3", 1);
        comesTo("not 1 or 1", 1);
        comesTo("not 0 and 0", 0);
        comesTo("20-5-4", 11);
        comesTo("20-5+4", 19);
        comesTo("2+3*4", 14);
        comesTo("2*3+4", 10);
        comesTo("2*3*4", 24);
        comesTo("2-3*4-5", -15);
        comesTo("(2-3)*4-5", -9);
        comesTo("2-(3-5)", 4);
        comesTo("1+1<3-1", 0);
        comesTo("1+1=3-1", 1);
        comesTo("7", 7);
        comesTo("(7)", 7);
        for (String sign : new String[] {"+", "-", "*", "<", "=", " or ", " and "}) {
            int size = sign.length();
            goodE("1" + sign + "1");
            faultInE("1" + sign + ")", 1 + size);
            faultInE("1" + sign, 1 + size);
            faultInE("1" + sign + "*1", 1 + size);
            faultInE("(1" + sign + ")", 2 + size);
        }
        for (String sign : new String[] {"+", "*", "<", "=", "or ", "and ", ")"}) {
            faultInE(sign + "1", 0);
        }
    }

    private static void grammarOfNot() {
        Check.sentence("NOT: not NOT, or SUM, perhaps < or = and a SUM. ONE: a NUMBER, a NAME, - ONE, ( E )");
        comesTo("not 1=2", 1);
        comesTo("not (1=2)", 1);
        comesTo("(not 1)=2", 0);
        comesTo("(not 1)=0", 1);
        comesTo("not not 7", 1);
        comesTo("not 1+1", 0);
        comesTo("not 1-1", 1);
        comesTo("1<2 and 2<3", 1);
        comesTo("(1<2)<3", 1);
        comesTo("--7", 7);
        comesTo("-(1+2)*2", -6);
        comesTo("3--4", 7);
        comesTo("3*-4", -12);
        comesTo("-(1 or 2)", -1);
        faultInE("1<2<3", 3);
        faultInE("1=2=3", 3);
        faultInE("1<2=3", 3);
        faultInE("1=2<3", 3);
        faultInE("1<not 2", 2);
        faultInE("1=not 2", 2);
        faultInE("1+not 2", 2);
        faultInE("1*not 2", 2);
        faultInE("-not 2", 1);
        faultInE("1 not 2", 2);
        faultInE("()", 1);
        faultInE("(1", 2);
        faultInE("(1;", 2);
        faultInE("1)", 1);
        faultInE("((1)", 4);
        faultInE("(1))", 3);
        faultInE("(1 2)", 3);
        faultInE("1(2)", 1);
        faultInE("ink(2)", 3);
        faultInE("(1)(2)", 3);
        faultInE("(1)2", 3);
    }

    private static void wraps() {
        Check.sentence("An E is an int (32 bits, wrapping)");
        comesTo(GREATEST, 2147483647);
        comesTo(LEAST, -2147483648);
        comesTo(GREATEST + "+1", -2147483648);
        comesTo(LEAST + "-1", 2147483647);
        comesTo("-" + LEAST, -2147483648);
        comesTo("-" + GREATEST, -2147483647);
        comesTo(LEAST + "*-1", -2147483648);
        comesTo(GREATEST + "*2", -2);
        comesTo("256*256*256*128", -2147483648);
        comesTo("256*256*256*256", 0);
        comesTo("256*256*256*255", -16777216);
        comesTo("9999*9999*22", 9999 * 9999 * 22);
        comesTo(GREATEST + "+1<0", 1);
        comesTo("0<" + GREATEST + "+1", 0);
        comesTo("256*256*256*256=0", 1);
        comesTo(GREATEST + "+1=" + LEAST, 1);
        comesTo("not 256*256*256*256", 1);
        comesTo("256*256*256*256 or 0", 0);
        comesTo(LEAST + "<" + GREATEST, 1);
        comesTo(GREATEST + "<" + LEAST, 0);
    }

    private static void truth() {
        Check.sentence("of or, and, not, <, = 1 or 0 (what is not 0 is true)");
        comesTo("7 or 0", 1);
        comesTo("0 or -7", 1);
        comesTo("2 and 4", 1);
        comesTo("-1 and -1", 1);
        comesTo("0 and 0", 0);
        comesTo("not -1", 0);
        comesTo("not 256", 0);
        comesTo("not 0", 1);
        comesTo("1<1", 0);
        comesTo("1<2", 1);
        comesTo("-1<0", 1);
        comesTo("0<-1", 0);
        comesTo("1=1", 1);
        comesTo("1=-1", 0);
        comesTo("(3 or 0)+(2 and 2)+(not 0)+(1<2)+(2=2)", 5);
    }

    private static void endsTooEarly() {
        Check.sentence("the text's size, if it ends too early");
        String[] parts = {"", "first", "first ", "first 1", "first 1+", "first (", "first (1", "first not", "first -",
            "first 1;", "first 1;may", "first 1;may 1", "first 1;may 1;", "first 1;may 1;value", "first 1;may 1;value 1"};
        for (String part : parts) {
            fault(part, part.length());
            fault(part + " \n ", part.length() + 3);
        }
        String all = "first 1;may 1;value 1" + "+1".repeat(69) + " ";
        fault(all, 160);
        good(all.substring(0, 159) + ";");
        fault(all.substring(0, 159) + "+", 160);
        fault(all.substring(0, 159) + "?", 159);
    }

    private static void firstFault() {
        Check.sentence("the place of the first byte of the first TOKEN that can't stand there");
        faultInE("1 1 99999 moulds ?", 2);
        faultInE("99999 1 1", 0);
        faultInE("? 99999", 0);
        faultInE("moulds ?", 0);
        faultInE("(1 + ) * ?", 5);
        faultInE("((((((1 ?", 5);
        faultInE("1 ? ((((((1))))))", 2);
        faultInE("   moulds", 3);
        faultInE("1  12345", 3);
        faultInE("1 moulds", 2);
    }

    private static void openOnes() {
        Check.sentence("a ( , a not, a - ahead of a ONE while 5 of these are open");
        goodE("(((((1)))))");
        faultInE("((((((1))))))", 5);
        goodE("not not not not not 1");
        faultInE("not not not not not not 1", 20);
        goodE("-----1");
        faultInE("------1", 5);
        goodE("1------1");
        faultInE("1-------1", 7);
        goodE("1-(((((1)))))");
        goodE("1+(((((1)))))");
        goodE("1*(((((1)))))");
        faultInE("-(((((1)))))", 5);
        faultInE("not (((((1)))))", 8);
        faultInE("(((((-1)))))", 5);
        faultInE("(((((not 1)))))", 5);
        faultInE("(((((1))))+(((((1)))))", 15);
        faultInE("(((((1+-1)))))", 7);
        faultInE("(((((1<-1)))))", 7);
    }

    private static void openOnesEnd() {
        Check.sentence("(a ( till its ) , not and - till what they belong to ends)");
        goodE("(((((1)))))+(((((1)))))");
        goodE("(((((1)))))<(((((1)))))");
        goodE("-----1*-----1");
        goodE("-----1------1");
        goodE("-1*(((((1)))))");
        goodE("-1+(((((1)))))");
        goodE("-(1)+(((((1)))))");
        faultInE("-(1+(((((1))))))", 7);
        goodE("not not not not not 1 or not not not not not 1");
        goodE("not 1 and (((((1)))))");
        goodE("not 1 or -----1");
        faultInE("not 1+(((((1)))))", 10);
        faultInE("not 1<(((((1)))))", 10);
        goodE("not 1<((((1))))");
        faultInE("not 1*-----1", 10);
        faultInE("not 1=2+-----1", 12);
        goodE("not 1=2+----1");
        goodE("(not 1) and (((((1)))))");
        goodE("(not 1)<(((((1)))))");
        faultInE("(not 1<(((((1))))))", 10);
    }

    private static void openOnesOfAllSorts() {
        Check.sentence("while 5 of these are open (of all three sorts together)");
        goodE("(not -(not 1))");
        faultInE("(not -(not -1))", 11);
        faultInE("(not -(not (1)))", 11);
        faultInE("(not -(not not 1))", 11);
        goodE("(not -1) or (not -(not 1))");
        faultInE("(not -1) or (not -(not -1))", 23);
        goodE("(-(-(1)))");
        faultInE("(-(-(-1)))", 5);
        goodE("-(-(-1))");
        faultInE("-(-(-(1)))", 5);
        goodE("not not not ((1)) or not not not -(1)");
        faultInE("not not not ((-1)) or not not not (((1)))", 14);
        faultInE("not not not ((1)) or not not not (((1)))", 35);
        comesTo("(not -(not 0))", 0);
        comesTo("-(-(-1))", -1);
    }

    private static void sixTexts() {
        Check.sentence("There are 6 TEXTS at most, TEXT 0 with them. FULL (ahead of all): THE TAPE stays");
        MudLibrary x = new MudLibrary();
        due("TEXTS at first", x.count(2), 1);
        for (int k = 1; k <= 5; k++) {
            due("a bad one takes no number", Check.text(x, "first"), -105);
            due("TEXT " + k, Check.text(x, "first " + k + REST), k);
            due("TEXTS", x.count(2), k + 1);
        }
        due("an empty TAPE", x.text(), FULL);
        due("a good one", Check.text(x, GOOD), FULL);
        due("THE TAPE stays", x.count(3), 22);
        due("FULL ahead of a FAULT", Check.text(x, "?"), FULL);
        due("THE TAPE stays again", x.count(3), 23);
        x.book(1, 1);
        for (int k = 1; k <= 5; k++) {
            x.force(k);
            due("TEXT " + k + " is told still", x.says(0, 0), k);
        }
    }

    private static void manyFaults() {
        Check.sentence("THE TAPE, which is empty then (by a FAULT, too)");
        MudLibrary x = Check.withBooks(1, 10);
        String most = "first 1;may 1;value 1" + "+1".repeat(69);
        for (int k = 0; k < 12; k++) {
            due("a long bad one", Check.text(x, most), -259);
            due("an empty TAPE", x.text(), -100);
            due("one that is open", Check.text(x, "first ((((("), -111);
        }
        for (int k = 1; k <= 5; k++) {
            due("a long good one", Check.text(x, most.substring(0, 158) + k + ";"), k);
            x.force(k);
            due("first", x.says(0, 0), 1);
            due("value", x.says(0, 2), 69 + k);
            if (k < 5) {
                due("a bad one", Check.text(x, most), -259);
                due("THE TAPE", x.count(3), 0);
            }
        }
    }

    private static void textZero() {
        Check.sentence("TEXT 0, at first THE RULE, is: first mould + worth ; may ink < 2 ; value worth ;");
        MudLibrary x = new MudLibrary();
        due("THE RULE at first", x.count(4), 0);
        for (int ink = 0; ink <= 3; ink++) {
            x.book(100 * ink + 50, 200 + ink);
        }
        x.pass(10);
        for (int ink = 0; ink <= 3; ink++) {
            due("first", x.says(ink, 0), 30 + 200 + ink);
            due("may", x.says(ink, 1), ink < 2 ? 1 : 0);
            due("value", x.says(ink, 2), 200 + ink);
        }
    }

    private static void namesOfABook() {
        Check.sentence("Of a BOOK: mould: MOULD; ink, paper, worth, size; age: HOUR less SINCE");
        MudLibrary x = new MudLibrary();
        x.pass(3);
        x.book(1245, 678);
        x.pass(5);
        Check.rule(x, "mould", "ink", "paper");
        due("mould", x.says(0, 0), 15);
        due("ink", x.says(0, 1), 2);
        due("paper", x.says(0, 2), 1);
        Check.rule(x, "worth", "size", "age");
        due("worth", x.says(0, 0), 678);
        due("size", x.says(0, 1), 45);
        due("age", x.says(0, 2), 5);
        x.move(0, 3);
        due("age when it is moved", x.says(0, 2), 0);
        x.pass(71);
        due("age of 71 HOURS", x.says(0, 2), 71);
        x.pass(1);
        due("age when it is DONE", x.says(0, 2), 0);
        Check.passAll(x, 919);
        due("age at the last HOUR", x.says(0, 2), 919);
    }

    private static void force() {
        Check.sentence("force: A TEXT is THE RULE: which was. BAD");
        MudLibrary x = new MudLibrary();
        due("TEXT 0", x.force(0), 0);
        for (int text : new int[] {1, -1, 6, LOW, HIGH}) {
            due("force(" + text + ")", x.force(text), BAD);
        }
        for (int k = 1; k <= 5; k++) {
            due("TEXT " + k + " isn't yet", x.force(k), BAD);
            Check.text(x, GOOD);
            due("TEXT " + k + " is", x.force(k), k - 1);
            due("THE RULE", x.count(4), k);
        }
        due("TEXT 6", x.force(6), BAD);
        due("THE RULE stays", x.count(4), 5);
        due("TEXT 0 again", x.force(0), 5);
        for (int part : new int[] {-1, 3, LOW, HIGH}) {
            due("says(0, " + part + ")", Check.withBooks(1, 1).says(0, part), NO);
        }
        for (int book : new int[] {-1, 1, LOW, HIGH}) {
            due("says(" + book + ", 0)", Check.withBooks(1, 1).says(book, 0), NO);
        }
    }

    private static void goesFirst() {
        Check.sentence("first: what goes first, the greatest (of like ones the least BOOK). next: the i-th that isn't DONE");
        MudLibrary x = Check.withBooks(24, 1);
        for (int i = 0; i < 24; i++) {
            due("like ones, " + i, x.next(i), i);
        }
        due("24", x.next(24), NONE);
        due("-1", x.next(-1), NONE);
        due("LOW", x.next(LOW), NONE);
        due("HIGH", x.next(HIGH), NONE);
        due("without any", new MudLibrary().next(0), NONE);
        x = Check.withBooks(3, 1);
        for (int book = 0; book < 3; book++) {
            x.move(book, 3);
        }
        x.pass(71);
        due("not yet DONE", x.next(2), 2);
        x.pass(1);
        due("all are DONE", x.next(0), NONE);
        x.book(1, 0);
        due("but one of less", x.next(0), 3);
        due("and no more", x.next(1), NONE);
    }

    private static void goesFirstWithoutWrap() {
        Check.sentence("first: the greatest (an int; what is compared doesn't wrap)");
        MudLibrary x = new MudLibrary();
        x.book(1, 0);
        x.book(1, 1);
        x.book(1, 2);
        Check.rule(x, "(worth=0)*" + LEAST + "+(worth=1)*" + GREATEST, "1", "1");
        due("the least int", x.says(0, 0), LOW);
        due("the greatest int", x.says(1, 0), HIGH);
        due("the greatest goes first", x.next(0), 1);
        due("then 0", x.next(1), 2);
        due("then the least", x.next(2), 0);
    }

    private static void valueBelow0() {
        Check.sentence("value: what is lost for each 100 of HARM (an int; below 0 it counts as 0)");
        String[] values = {"-1", "0", "1", LEAST, GREATEST, GREATEST + "+1"};
        long[] lost = {0, 0, 10, 0, 21474836470L, 0};
        long[] says = {-1, 0, 1, LOW, HIGH, LOW};
        for (int k = 0; k < values.length; k++) {
            MudLibrary x = Check.withBooks(1, 1);
            Check.passAll(x, 48 + 152);
            due("HARM", x.bookTold(0, 6), 1000);
            Check.rule(x, "1", "1", values[k]);
            due("lost by value " + values[k], x.lost(0), lost[k]);
            due("all lost by value " + values[k], x.lost(-1), lost[k]);
            due("value " + values[k] + " itself", x.says(0, 2), says[k]);
        }
        MudLibrary x = new MudLibrary();
        x.book(1, 1);
        x.book(1, 5);
        x.pass(48);
        Check.rule(x, "1", "1", "100*worth-300");
        due("one below 0", x.lost(0), 0);
        due("takes nothing from all", x.lost(-1), 200 * 45 / 100);
    }

    private static void lostIsCut() {
        Check.sentence("LOST of a BOOK: value times HARM by 100. Quotients are cut");
        MudLibrary x = new MudLibrary();
        x.book(1, 33);
        x.book(1, 34);
        x.book(1, 66);
        x.book(1, 67);
        x.pass(34);
        due("HARM 3, 99 by 100", x.lost(0), 0);
        due("HARM 3, 102 by 100", x.lost(1), 1);
        due("HARM 3, 198 by 100", x.lost(2), 1);
        due("HARM 3, 201 by 100", x.lost(3), 2);
        due("all, each cut for itself", x.lost(-1), 4);
        for (int book : new int[] {-2, 4, LOW, HIGH}) {
            due("lost(" + book + ")", x.lost(book), NO);
        }
        due("all of none", new MudLibrary().lost(-1), 0);
        x = Check.withBooks(24, 1);
        Check.rule(x, "1", "1", GREATEST);
        Check.passAll(x, 200);
        due("all of 24 is a long", x.lost(-1), 24 * 21474836470L);
        due("the most in thousands", x.lots(0, 1, -1), 515396075);
    }

    private static void trials() {
        Check.sentence("TRIALS (30 at most): an INK on a PAPER ran (1), or not (0)");
        MudLibrary x = new MudLibrary();
        int[][] bad = {{-1, 0, 0}, {4, 0, 0}, {0, -1, 0}, {0, 4, 0}, {0, 0, -1}, {0, 0, 2}, {LOW, 0, 0}, {0, HIGH, 0}};
        for (int[] b : bad) {
            due("trial(" + b[0] + ", " + b[1] + ", " + b[2] + ")", x.trial(b[0], b[1], b[2]), BAD);
        }
        due("none yet", x.count(5), 0);
        for (int k = 0; k < 30; k++) {
            due("TRIAL " + k, x.trial(k % 4, k / 4 % 4, k % 2), k + 1);
        }
        due("TRIAL 31", x.trial(0, 0, 1), FULL);
        due("it isn't told", x.barred(0, 0, 0), 0);
        for (int[] b : bad) {
            due("BAD ahead of FULL", x.trial(b[0], b[1], b[2]), BAD);
        }
        due("how many", x.count(5), 30);
    }

    private static void barredAsKnown() {
        Check.sentence("BARRED, as KNOWN in an HOUR, if the one told last by then ran");
        MudLibrary x = new MudLibrary();
        x.pass(5);
        x.trial(2, 3, 1);
        due("the HOUR ahead of it", x.barred(2, 3, 4), 0);
        due("its HOUR", x.barred(2, 3, 5), 1);
        x.trial(2, 3, 0);
        due("the last of one HOUR counts", x.barred(2, 3, 5), 0);
        x.trial(2, 3, 1);
        due("and again", x.barred(2, 3, 5), 1);
        x.pass(1);
        x.trial(2, 3, 0);
        due("the HOUR before still", x.barred(2, 3, 5), 1);
        due("now", x.barred(2, 3, 6), 0);
        due("HOUR 7 isn't yet", x.barred(2, 3, 7), BAD);
        due("HOUR 0", x.barred(2, 3, 0), 0);
        due("HOUR -1", x.barred(2, 3, -1), BAD);
        due("PAPER and INK the other way", x.barred(3, 2, 6), 0);
        due("INK 4", x.barred(4, 3, 6), BAD);
        due("INK -1", x.barred(-1, 3, 6), BAD);
        due("PAPER 4", x.barred(2, 4, 6), BAD);
        due("PAPER -1", x.barred(2, -1, 6), BAD);
        due("without any", x.barred(0, 0, 6), 0);
    }
}
