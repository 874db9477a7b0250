/** The sentences of the document's 'Terms' that name an edge of TEXTS and FAULTS: each has a function of its own. */
final class EdgesTextTest {
    private static final String SORT = "sort 1 worth 9 purse 9 gives ";

    public static void main(String[] args) {
        gatesAreTwo();
        giftsAreTen();
        sortsAreEightAtMost();
        odds();
        worth();
        purse();
        sight();
        card();
        keeperAndGlass();
        least();
        chance();
        bound();
        bytes();
        words();
        numbers();
        signs();
        blanks();
        clauses();
        wholeClauses();
        oneTest();
        theFirstAlongTheText();
        atTheFirstByte();
        ofOneTokenTheLeast();
        cannotStandThere();
        endsTooSoon();
        fourDigits();
        notAsTold();
        ninthSort();
        withinSixOthers();
        seventhNot();
        noValue();
        toldAlready();
        Check.end();
    }

    private static void gatesAreTwo() {
        Check.sentence("GATES 0 and 1 (at first without SORTS, nothing told).");
        GateBox x = new GateBox();
        int[] due = {0, 1, -1, 0, 0, 0, 0, 100, 0, 0, 0, 0, 0, 0};
        for (int gate = 0; gate < 2; gate++) {
            for (int what = 0; what < due.length; what++) {
                Check.due("about(" + gate + ", " + what + ")", x.about(gate, what), due[what]);
            }
        }
        Check.noSuch("sort(0, 0, 0)", () -> x.sort(0, 0, 0));
        Check.noSuch("sort(1, 0, 0)", () -> x.sort(1, 0, 0));
        Check.noSuch("about(-1, 0)", () -> x.about(-1, 0));
        Check.noSuch("about(2, 0)", () -> x.about(2, 0));
        Check.noSuch("about(MIN, 0)", () -> x.about(Integer.MIN_VALUE, 0));
        Check.noSuch("about(MAX, 0)", () -> x.about(Integer.MAX_VALUE, 0));
    }

    private static void giftsAreTen() {
        Check.sentence("GIFTS are 0 to 9.");
        GateBox x = Check.made(SORT + "999;");
        Check.due("next(0, 5, 0)", x.next(0, 5, 0), 0);
        Check.due("next(0, 5, 9)", x.next(0, 5, 9), 9);
        Check.noSuch("next(0, 5, 10)", () -> x.next(0, 5, 10));
        Check.noSuch("next(0, 5, -1)", () -> x.next(0, 5, -1));
        Check.due("give(0, 0)", x.give(0, 0), 1);
        Check.due("give(0, 9)", x.give(0, 9), 2);
        Check.due("give(0, 10)", x.give(0, 10), -1);
        Check.due("give(0, -1)", x.give(0, -1), -1);
        Check.due("the most that a person gives", x.gives(0, 0, 0), 9);
    }

    private static void sortsAreEightAtMost() {
        Check.sentence("A GATE has SORTS 0, 1 .. (at most 8)");
        for (int sorts = 0; sorts <= 8; sorts++) {
            GateBox x = Check.made((SORT + "1;").repeat(sorts));
            int many = sorts;
            Check.due("about(0, 0)", x.about(0, 0), sorts);
            Check.due("all odds", x.about(0, 8), sorts);
            Check.noSuch("the sort behind the last", () -> x.sort(0, many, 0));
            if (sorts > 0) {
                Check.due("the last sort", x.sort(0, sorts - 1, 1), 9);
            }
        }
        GateBox y = new GateBox();
        Check.due("nine sorts", Check.gate(y, 0, "sort1worth9purse9gives1;".repeat(9)), 2);
        Check.due("nine sorts: none", y.about(0, 0), 0);
    }

    private static void odds() {
        Check.sentence("ODDS (1 to 99)");
        range("sort ", " worth 9 purse 9 gives 1;", 1, 99, x -> x.sort(0, 0, 0));
        GateBox x = Check.made("sort 99 worth 9 purse 9 gives 1;".repeat(8));
        Check.due("the most of all odds", x.about(0, 8), 792);
    }

    private static void worth() {
        Check.sentence("WORTH (0 to 99)");
        range("sort 1 worth ", " purse 9 gives 1;", 0, 99, x -> x.sort(0, 0, 1));
    }

    private static void purse() {
        Check.sentence("PURSE (0 to 9)");
        range("sort 1 worth 9 purse ", " gives 1;", 0, 9, x -> x.sort(0, 0, 2));
    }

    private static void sight() {
        Check.sentence("a SIGHT (0 to 2: so many of the last GIFTS are remembered; 1 at first)");
        Check.due("at first", new GateBox().about(0, 1), 1);
        Check.due("untold", Check.made("glass;").about(0, 1), 1);
        range("sight ", ";", 0, 2, x -> x.about(0, 1));
        int[] states = {1, 10, 100};
        int[] behind = {0, 7, 57};
        for (int sight = 0; sight < 3; sight++) {
            GateBox x = Check.made("sight " + sight + ";");
            int most = states[sight] - 1;
            x.give(0, 3);
            x.give(0, 5);
            x.give(0, 7);
            Check.due("what is remembered of 3, 5, 7", x.about(0, 13), behind[sight]);
            Check.due("the last state", x.next(0, most, 0), sight == 2 ? 90 : 0);
            Check.noSuch("one more", () -> x.next(0, most + 1, 0));
            Check.noSuch("one less than the first", () -> x.next(0, -1, 0));
        }
    }

    private static void card() {
        Check.sentence("a CARD with a number (0 to 9) or none");
        Check.due("at first", new GateBox().about(1, 2), -1);
        Check.due("untold", Check.made("glass;").about(0, 2), -1);
        range("card ", ";", 0, 9, x -> x.about(0, 2));
    }

    private static void keeperAndGlass() {
        Check.sentence("a KEEPER, a GLASS box or not");
        GateBox x = Check.made("keeper;");
        Check.due("a keeper", x.about(0, 3), 1);
        Check.due("no glass", x.about(0, 4), 0);
        GateBox y = Check.made("glass;");
        Check.due("no keeper", y.about(0, 3), 0);
        Check.due("glass", y.about(0, 4), 1);
        fault("keeper 1;", 1, 7);
        fault("glass 0;", 1, 6);
    }

    private static void least() {
        Check.sentence("a LEAST (0 to 9; 0 at first)");
        Check.due("at first", new GateBox().about(0, 5), 0);
        Check.due("untold", Check.made("glass;").about(0, 5), 0);
        range("least ", ";", 0, 9, x -> x.about(0, 5));
    }

    private static void chance() {
        Check.sentence("a CHANCE (0 to 100; 0 at first)");
        Check.due("at first", new GateBox().about(0, 6), 0);
        Check.due("untold", Check.made("glass;").about(0, 6), 0);
        range("thief ", " 500;", 0, 100, x -> x.about(0, 6));
    }

    private static void bound() {
        Check.sentence("and a BOUND (1 to 999; 100 at first)");
        Check.due("at first", new GateBox().about(0, 7), 100);
        Check.due("untold", Check.made("glass;").about(0, 7), 100);
        range("thief 50 ", ";", 1, 999, x -> x.about(0, 7));
    }

    private static void bytes() {
        Check.sentence("A TEXT of at most 700 bytes tells a GATE.");
        String ends = "keeper;" + " ".repeat(687) + "glass;";
        GateBox x = Check.made(ends);
        Check.due("700 bytes", ends.length(), 700);
        Check.due("the clause that ends at the last byte", x.about(0, 4), 1);
        fault(ends.substring(0, 699) + "?", 1, 699);
        fault(ends.substring(0, 699) + " ", 1, 700);
        // 332 signs + in an expr that ends at byte 700: none of them is lost
        String sum = SORT + "342=10" + "+1".repeat(332) + ";";
        Check.due("700 bytes", sum.length(), 700);
        Check.due("all of it is reckoned", Check.made(sum).gives(0, 0, 0), 1);
    }

    private static void words() {
        Check.sentence("words (a .. z, the longest row)");
        fault("keepers;", 1, 0);
        fault("keepe;", 1, 0);
        fault("keeper;", 0, -1);
        fault("keeperglass;", 1, 0);
        fault("Keeper;", 1, 0);
        fault("keepeR;", 1, 0);
        fault("sort1worth9purse9gives1;", 0, -1);
        spoiledWords();
        // a and z belong to words, the bytes beside them don't
        fault(SORT + "a;", 3, SORT.length());
        fault(SORT + "z;", 3, SORT.length());
        fault(SORT + "worthz;", 3, SORT.length());
        fault(SORT + "aworth;", 3, SORT.length());
        fault(SORT + "worth`;", 1, SORT.length() + 5);
        fault(SORT + "worth{;", 1, SORT.length() + 5);
        fault(SORT + "`;", 1, SORT.length());
        fault(SORT + "{;", 1, SORT.length());
        fault(SORT + "lastlast;", 3, SORT.length());
        fault(SORT + "last last;", 1, SORT.length() + 5);
        fault(SORT + "notlast;", 3, SORT.length());
    }

    /** Each word with one letter more, one less, and another one in each place. */
    private static void spoiledWords() {
        String[] words = {"sort", "worth", "purse", "gives", "sight", "card", "keeper", "glass", "least", "thief"};
        String[] ahead = {"", "sort 1 ", "sort 1 worth 1 ", "sort 1 worth 1 purse 1 ", "", "", "", "", "", ""};
        for (int i = 0; i < words.length; i++) {
            for (int letter = 0; letter < words[i].length(); letter++) {
                fault(ahead[i] + words[i].substring(0, letter) + "q" + words[i].substring(letter + 1), 1, ahead[i].length());
            }
            fault(ahead[i] + words[i] + "q", 1, ahead[i].length());
            fault(ahead[i] + words[i].substring(1), 1, ahead[i].length());
        }
        String[] values = {"worth", "purse", "last", "mean", "card", "sign", "keeper", "glass", "least", "not"};
        for (String value : values) {
            for (int letter = 0; letter < value.length(); letter++) {
                fault(SORT + value.substring(0, letter) + "q" + value.substring(letter + 1) + " 1;", 3, SORT.length());
            }
        }
        for (String join : new String[] {"and", "or"}) {
            for (int letter = 0; letter < join.length(); letter++) {
                fault(SORT + "1 " + join.substring(0, letter) + "q" + join.substring(letter + 1) + " 1;", 1, SORT.length() + 2);
            }
        }
    }

    private static void numbers() {
        Check.sentence("NUMBERS (1 to 3 digits)");
        for (String seven : new String[] {"7", "07", "007"}) {
            Check.due("card " + seven, Check.made("card " + seven + ";").about(0, 2), 7);
            Check.due("gives " + seven, Check.made(SORT + seven + ";").gives(0, 0, 0), 7);
        }
        fault("card 0007;", 2, 5);
        fault(SORT + "0007;", 2, SORT.length());
        Check.due("the greatest", Check.made(SORT + "999=900+99;").gives(0, 0, 0), 1);
        Check.due("each digit", Check.made(SORT + "(123=100+23)+(456=400+56)+(789=700+89)+(90=45*2);").gives(0, 0, 0), 4);
        // the bytes beside the digits
        fault("card /;", 1, 5);
        fault("card :;", 1, 5);
        fault("card 0;", 0, -1);
        fault("card 9;", 0, -1);
        fault("card 9:;", 1, 6);
    }

    /** Each of the 256 bytes behind a NUMBER in an EXPR. */
    private static void signs() {
        Check.sentence("signs ; ( ) + - * / < =");
        int place = SORT.length() + 1;
        for (int b = 0; b < 256; b++) {
            String text = SORT + "1" + (char) b + ";";
            boolean fine = b == ' ' || b == '\n' || b >= '0' && b <= '9';
            boolean goesOn = ";+-*/<=".indexOf(b) >= 0;
            fault(text, fine ? 0 : 1, fine ? -1 : goesOn ? place + 1 : place);
        }
        int[] due = {4, 2, 3, 3, 0, 0};
        String[] exprs = {"3+1", "3-1", "3*1", "3/1", "3<1", "3=1"};
        for (int i = 0; i < due.length; i++) {
            Check.due(exprs[i], Check.made(SORT + exprs[i] + ";").gives(0, 0, 0), due[i]);
        }
        Check.due("parentheses", Check.made(SORT + "2*(3+1);").gives(0, 0, 0), 8);
    }

    private static void blanks() {
        Check.sentence("blanks (32, 10) between them count for nothing");
        String blank = " \n ";
        GateBox x = Check.made("  sort 1 worth 8 purse 9 gives ( 1 + worth ) ; card 5 ; \n".replace(" ", blank));
        Check.due("worth", x.sort(0, 0, 1), 8);
        Check.due("gives", x.gives(0, 0, 0), 9);
        Check.due("card", x.about(0, 2), 5);
        Check.due("without any", Check.made("card5;sight2;").about(0, 2), 5);
        // within a token they part it
        fault("kee per;", 1, 0);
        fault("keeper ;", 0, -1);
        fault("card 5 5;", 1, 7);
        fault("card\n5\n5;", 1, 7);
        for (int b : new int[] {0, 9, 11, 13, 31, 33, 160}) {
            fault("card " + (char) b + "5;", 1, 5);
        }
    }

    private static void clauses() {
        Check.sentence("GATE: CLAUSE*.");
        fault("", 0, -1);
        fault(" ", 0, -1);
        fault("\n", 0, -1);
        fault(";", 1, 0);
        fault("keeper;;", 1, 7);
        String[] parts = {SORT + "1;", "sight 2;", "card 3;", "keeper;", "glass;", "least 4;", "thief 5 6;", SORT + "2;"};
        for (int first = 0; first < parts.length; first++) {
            StringBuilder text = new StringBuilder();
            for (int i = 0; i < parts.length; i++) {
                text.append(parts[(first + i) % parts.length]);
            }
            GateBox x = Check.made(text.toString());
            int[] due = {2, 2, 3, 1, 1, 4, 5, 6, 2};
            for (int what = 0; what < due.length; what++) {
                Check.due("in any order: about(0, " + what + ")", x.about(0, what), due[what]);
            }
        }
    }

    /** A whole text cut off behind each TOKEN, and with each TOKEN spoiled. */
    private static void wholeClauses() {
        Check.sentence("CLAUSE: ('sort' NUMBER 'worth' NUMBER 'purse' NUMBER 'gives' EXPR | 'sight' NUMBER | 'card' NUMBER | 'keeper'"
                + " | 'glass' | 'least' NUMBER | 'thief' NUMBER NUMBER) ';'.");
        String[] tokens = ("sort 1 worth 2 purse 3 gives not ( 1 + worth < purse * 2 ) and last or mean / 2 - card ; sight 2 ; card 3 ; "
                + "keeper ; glass ; least 4 ; thief 5 6 ;").split(" ");
        String ahead = "";
        for (int i = 0; i < tokens.length; i++) {
            StringBuilder spoiled = new StringBuilder(ahead).append("? ");
            for (int j = i + 1; j < tokens.length; j++) {
                spoiled.append(tokens[j]).append(" ");
            }
            fault(spoiled.toString(), 1, ahead.length());
            ahead += tokens[i];
            boolean whole = tokens[i].equals(";");
            fault(ahead, whole ? 0 : 1, whole ? -1 : ahead.length());
            ahead += " ";
        }
    }

    private static void oneTest() {
        Check.sentence("SUM [('<' | '=') SUM] (perhaps)");
        fault(SORT + "1<2;", 0, -1);
        fault(SORT + "1;", 0, -1);
        fault(SORT + "1<2<3;", 1, SORT.length() + 3);
        fault(SORT + "1=2=3;", 1, SORT.length() + 3);
        fault(SORT + "1<2=3;", 1, SORT.length() + 3);
        fault(SORT + "1<2 and 2<3 or 3=4;", 0, -1);
        fault(SORT + "(1<2)<3;", 0, -1);
    }

    private static void theFirstAlongTheText() {
        Check.sentence("FAULTS, the first along the text");
        fault("sight 3;sight 3;x", 2, 6);
        fault("sight 2;sight 3;x", 4, 8);
        fault("sight 2;x;sight 3;", 1, 8);
        fault(SORT + "x+1000;", 3, SORT.length());
        fault(SORT + "1000+x;", 2, SORT.length());
        fault(SORT + "1 1;x", 1, SORT.length() + 2);
    }

    private static void atTheFirstByte() {
        Check.sentence("at a TOKEN's first byte");
        fault("  keepers", 1, 2);
        fault("card \n 1000;", 2, 7);
        fault("card 9; card 9;", 4, 8);
        fault(SORT + "   lasts;", 3, SORT.length() + 3);
        fault("?", 1, 0);
        fault("\n?", 1, 1);
    }

    private static void ofOneTokenTheLeast() {
        Check.sentence("of one TOKEN the least");
        // 1 and 2: a long number where none can stand
        fault("1000;", 1, 0);
        fault("card 9 1000;", 1, 7);
        fault(SORT + "1 1000;", 1, SORT.length() + 2);
        // 1 and 2: a ) as the first token within six others
        fault(SORT + "(((((()", 1, SORT.length() + 6);
        // 2 and 3: a word that is no value there
        fault(SORT + "((((((gives", 2, SORT.length() + 6);
        // 2 and 4 stand at other tokens
        fault("card 9;card 1000;", 4, 7);
    }

    private static void cannotStandThere() {
        Check.sentence("1 a TOKEN that can't stand there, or is none");
        fault("worth 1;", 1, 0);
        fault("1;", 1, 0);
        fault("or;", 1, 0);
        fault("sort;", 1, 4);
        fault("sort 1 purse 1;", 1, 7);
        fault("sort 1 worth worth 1;", 1, 13);
        fault("least (1);", 1, 6);
        fault("least -1;", 1, 6);
        fault("thief 1;", 1, 7);
        fault("thief 1 2 3;", 1, 10);
        fault(SORT + ";", 1, SORT.length());
        fault(SORT + "-1;", 1, SORT.length());
        fault(SORT + "1+;", 1, SORT.length() + 2);
        fault(SORT + "1+-1;", 1, SORT.length() + 2);
        fault(SORT + "();", 1, SORT.length() + 1);
        fault(SORT + "(1;", 1, SORT.length() + 2);
        fault(SORT + "1);", 1, SORT.length() + 1);
        fault(SORT + "1 not 1;", 1, SORT.length() + 2);
        fault(SORT + "1 last;", 1, SORT.length() + 2);
        fault(SORT + "1(2);", 1, SORT.length() + 1);
        fault(SORT + "1 sort;", 1, SORT.length() + 2);
        fault(SORT + "1,2;", 1, SORT.length() + 1);
    }

    private static void endsTooSoon() {
        Check.sentence("(the text's length where it ends too soon)");
        fault("keeper", 1, 6);
        fault("keeper ", 1, 7);
        fault("keeper\n\n\n", 1, 9);
        fault("sort", 1, 4);
        fault(SORT, 1, SORT.length());
        fault(SORT + "1", 1, SORT.length() + 1);
        fault(SORT + "(", 1, SORT.length() + 1);
        fault(SORT + "((((((", 1, SORT.length() + 6);
        fault(SORT + "not not not not not not", 1, SORT.length() + 23);
        // the text ends at n, whatever else the tape has
        GateBox x = new GateBox();
        Check.feed(x, "keeper;glass;");
        Check.due("six bytes of keeper;", x.gate(0, 6), 1);
        Check.due("fault()", x.fault(), 6);
        Check.feed(x, "keeper;glass;");
        Check.due("seven bytes", x.gate(0, 7), 0);
        Check.due("no glass", x.about(0, 4), 0);
        Check.feed(x, "card 12;");
        Check.due("six bytes of card 12;", x.gate(0, 6), 1);
        Check.due("fault()", x.fault(), 6);
        Check.feed(x, "keeperx;");
        Check.due("six bytes of keeperx;", x.gate(0, 6), 1);
        Check.due("the word is whole", x.fault(), 6);
    }

    private static void fourDigits() {
        Check.sentence("a NUMBER of 4 digits or more");
        for (String ahead : new String[] {"sort ", "sort 1 worth ", "sort 1 worth 9 purse ", SORT, SORT + "1+", SORT + "(", "sight ", "card ",
            "least ", "thief ", "thief 1 "}) {
            fault(ahead + "0001;", 2, ahead.length());
            fault(ahead + "1000;", 2, ahead.length());
            fault(ahead + "00000000000000000001;", 2, ahead.length());
            fault(ahead + "4294967297;", 2, ahead.length());
        }
    }

    private static void notAsTold() {
        Check.sentence("or (not in an EXPR) not as told");
        fault("sort 0 x", 2, 5);
        fault("sort 100 x", 2, 5);
        fault("sort 1 worth 100 x", 2, 13);
        fault("sort 1 worth 9 purse 10 x", 2, 21);
        fault("sight 3 x", 2, 6);
        fault("card 10 x", 2, 5);
        fault("least 10 x", 2, 6);
        fault("thief 101 x", 2, 6);
        fault("thief 1 0 x", 2, 8);
        fault(SORT + "0;", 0, -1);
        fault(SORT + "999;", 0, -1);
    }

    private static void ninthSort() {
        Check.sentence("the first TOKEN of the 9th SORT");
        String eight = (SORT + "1;").repeat(8);
        fault(eight, 0, -1);
        fault(eight + "sort 1 worth 9 purse 9 gives 1;", 2, eight.length());
        fault(eight + "sort", 2, eight.length());
        fault(eight + "sort 0", 2, eight.length());
        fault(eight + "sorts", 1, eight.length());
        fault(eight + "card 1;\nsort", 2, eight.length() + 8);
        fault(eight + "card 1;", 0, -1);
    }

    private static void withinSixOthers() {
        Check.sentence("of an EXPR within 6 others (a NUMBER, any word, a parenthesis)");
        int place = SORT.length() + 6;
        fault(SORT + "(((((1)))));", 0, -1);
        fault(SORT + "((((((1))))));", 2, place);
        for (String first : new String[] {"1", "1000", "worth", "not", "sort", "or", "x", "("}) {
            fault(SORT + "((((((" + first, 2, place);
        }
        for (String none : new String[] {"", ")", ";", "+", "-", "*", "/", "<", "=", "?"}) {
            fault(SORT + "((((((" + none, 1, place);
        }
        // others behind, not around it, don't count
        fault(SORT + "(((((1)))))+(((((1)))));", 0, -1);
        fault(SORT + "(((((1)+(1)))));", 0, -1);
        fault(SORT + "(((((1+((1)))))));", 2, SORT.length() + 8);
        // within five others all signs wait at once
        String deep = SORT + "0 or 1 and 1<1+1*(".repeat(5);
        Check.due("1 in it", Check.made(deep + "1" + ")".repeat(5) + ";").gives(0, 0, 0), 1);
        Check.due("0 in it", Check.made(deep + "0" + ")".repeat(5) + ";").gives(0, 0, 0), 0);
        // each sort's expr begins anew
        fault(SORT + "(((((1)))));" + SORT + "(((((1)))));", 0, -1);
    }

    private static void seventhNot() {
        Check.sentence("the seventh 'not' side by side");
        String six = "not not not not not not ";
        fault(SORT + six + "1;", 0, -1);
        fault(SORT + six + "not 1;", 2, SORT.length() + 24);
        fault(SORT + six + "not not 1;", 2, SORT.length() + 24);
        fault(SORT + six + "(" + six + "1);", 0, -1);
        fault(SORT + six + "1 and " + six + "1 or " + six + "1;", 0, -1);
        fault(SORT + "1 or " + six + "not 1;", 2, SORT.length() + 29);
        fault(SORT + six + "x;", 3, SORT.length() + 24);
        fault(SORT + six + "nots 1;", 3, SORT.length() + 24);
        Check.due("six of them", Check.made(SORT + six + "5;").gives(0, 0, 0), 1);
        Check.due("five of them", Check.made(SORT + six.substring(4) + "5;").gives(0, 0, 0), 0);
    }

    private static void noValue() {
        Check.sentence("3 any word where a PART must stand that is no VALUE");
        for (String word : new String[] {"sort", "gives", "sight", "thief", "or", "and", "x", "lasts", "las", "worths", "signs", "a"}) {
            fault(SORT + word + ";", 3, SORT.length());
            fault(SORT + "1+" + word + ";", 3, SORT.length() + 2);
            fault(SORT + "1*" + word + ";", 3, SORT.length() + 2);
            fault(SORT + "1<" + word + ";", 3, SORT.length() + 2);
            fault(SORT + "(" + word + ";", 3, SORT.length() + 1);
            fault(SORT + "not " + word + ";", 3, SORT.length() + 4);
            fault(SORT + "1 and " + word + ";", 3, SORT.length() + 6);
            fault(SORT + "1 or " + word + ";", 3, SORT.length() + 5);
        }
        fault(SORT + "1+not 1;", 3, SORT.length() + 2);
        fault(SORT + "1=not 1;", 3, SORT.length() + 2);
        for (String value : new String[] {"worth", "purse", "last", "mean", "card", "sign", "keeper", "glass", "least"}) {
            fault(SORT + value + ";", 0, -1);
            fault(SORT + "not " + value + "*" + value + ";", 0, -1);
        }
    }

    private static void toldAlready() {
        Check.sentence("4 a CLAUSE (but 'sort') that was told already, at its word.");
        String[] parts = {"sight 2", "card 3", "keeper", "glass", "least 4", "thief 5 6"};
        for (String part : parts) {
            String word = part.split(" ")[0];
            fault(part + ";" + part + ";", 4, part.length() + 1);
            fault(part + ";" + word, 4, part.length() + 1);
            fault(part + ";" + SORT + "1; " + word + " x", 4, part.length() + SORT.length() + 4);
            for (String other : parts) {
                fault(part + ";" + other + ";", other.equals(part) ? 4 : 0, other.equals(part) ? part.length() + 1 : -1);
            }
        }
        fault(SORT + "1;" + SORT + "1;", 0, -1);
        // told by another text it isn't told already
        GateBox x = Check.made("sight 2;card 3;keeper;glass;least 4;thief 5 6;");
        Check.due("again", Check.gate(x, 0, "sight 2;card 3;keeper;glass;least 4;thief 5 6;"), 0);
        Check.due("a fault", Check.gate(x, 0, "sight 2;card 3;keeper;glass;least 4;thief 5 6"), 1);
        Check.due("and again", Check.gate(x, 0, "sight 2;card 3;keeper;glass;least 4;thief 5 6;"), 0);
    }

    private interface Asked {
        int of(GateBox x);
    }

    /** A NUMBER in a text: all that are as told are what is told of the gate, those beside them are too much. */
    private static void range(String ahead, String behind, int low, int high, Asked asked) {
        for (int number = low; number <= high; number += Math.max(1, (high - number) / 2)) {
            Check.due(ahead + number + behind, asked.of(Check.made(ahead + number + behind)), number);
        }
        if (low > 0) {
            fault(ahead + (low - 1) + behind, 2, ahead.length());
        }
        fault(ahead + (high + 1) + behind, 2, ahead.length());
        fault(ahead + "1000" + behind, 2, ahead.length());
        fault(ahead + "-1" + behind, 1, ahead.length());
    }

    private static void fault(String text, int kind, int place) {
        GateBox x = new GateBox();
        Check.due("gate of " + text, Check.gate(x, 0, text), kind);
        Check.due("fault() of " + text, x.fault(), place);
    }
}
