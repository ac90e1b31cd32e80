/** A test for each sentence about filters (the third of the Terms) that names a boundary case. */
public final class FilterEdgesTest extends Kit {
    public static void main(String[] args) throws IllegalAccessException {
        runSentences(FilterEdgesTest.class);
    }

    // ---- the text and its words

    @Sentence(says = "The text (bytes from 1 to 255, at most 160) can be a filter for a table.")
    private static void theLongestText() {
        ColumnVault vault = vault(row(1, "a"));
        StringBuilder longest = new StringBuilder("#0 = 1");
        while (longest.length() < 159) {
            longest.append(' ');
        }
        rows("0", vault, longest + " ");
        state(vault, () -> vault.type(' '));
        error(1, 159, vault, longest + ")");
        error(1, 160, vault, longest + "&");
    }

    @Sentence(says = "The text (bytes from 1 to 255, at most 160) can be a filter for a table.")
    private static void theLeastAndTheGreatestByte() {
        ColumnVault vault = vault(row(1, "a"));
        error(1, 0, vault, "\u0001");
        error(1, 6, vault, "#0 = 1\u00ff");
        is(8, vault.type(1));
        is(9, vault.type(255));
        is(6, vault.errorPlace(0));
    }

    @Sentence(says = "Blanks (32) separate words and mean nothing else.")
    private static void blanksAreOfNoOtherUse() {
        ColumnVault vault = vault(row(1, "a"), row(-1, "to"));
        rows("0", vault, "   #0   =   1   ");
        rows("0", vault, "#0=1");
        rows("0 1", vault, "#0to-1 1");
        rows("0 1", vault, "#0 to -1 1&!#0>1");
        rows("0 1", vault, "! ! ! ( #0 > 1 )");
        rows("0 1", vault, "(#0=1)|(#0=-1)");
        error(1, 3, vault, "#0 t o 1 1");
        error(1, 7, vault, "#0 = 1 0");
        error(1, 3, vault, "   ");
        for (char sign : new char[] {'\t', '\n', 31, '"', 160}) {
            error(1, 2, vault, "#0" + sign + "= 1");
        }
    }

    @Sentence(says = "A word is a row of letters a to z, as long as possible; a number is a row of digits, as long as possible, perhaps with a minus right in front of it")
    private static void wordsAndNumbersAreAsLongAsPossible() {
        ColumnVault vault = vault(row(1, "a"), row(12, "to"), row(-12, "toa"));
        error(1, 3, vault, "#0 toa 1 2");
        error(1, 3, vault, "#0 missingx");
        error(1, 3, vault, "#0 inn 1");
        rows("1", vault, "#1 = to");
        rows("2", vault, "#1 = toa");
        rows("1", vault, "#0 = 12");
        rows("0 1", vault, "#0 in 1 12");
        rows("1", vault, "#0 = 00000000000000000000000000000000000000012");
        rows("2", vault, "#0 = -0012");
        rows("0 2", vault, "#0 in 1-12");
        rows("1 2", vault, "#1 to to toa");
        error(2, 5, vault, "#0 = 1234567");
        error(2, 5, vault, "#1 = abcdefgh");
        error(3, 6, vault, "#0 in a1");
        error(1, 6, vault, "#0 = 1a");
        error(1, 6, vault, "#1 = a1");
        error(1, 6, vault, "#1 = aB");
    }

    @Sentence(says = "(a minus without a digit right behind it begins nothing).")
    private static void aMinusAlone() {
        ColumnVault vault = vault(row(1, "a"), row(0, "b"), row(-5, "c"));
        error(1, 5, vault, "#0 = -");
        error(1, 5, vault, "#0 = - 5");
        error(1, 5, vault, "#0 = --5");
        error(1, 5, vault, "#0 = -a");
        error(1, 7, vault, "#0 in 1-");
        error(1, 8, vault, "#0 in 1 - 5");
        error(1, 0, vault, "-");
        rows("2", vault, "#0 = -5");
        rows("1", vault, "#0 = -0");
    }

    // ---- what stands where

    @Sentence(says = "filter = part { \"|\" part }")
    private static void aFilterHasOneOrMoreParts() {
        ColumnVault vault = fiveRows();
        rows("0", vault, "#0 = 3");
        rows("0 2", vault, "#0 = 3 | #0 = 1");
        error(1, 0, vault, "| #0 = 3");
        error(1, 8, vault, "#0 = 3 |");
        error(1, 9, vault, "#0 = 3 | | #0 = 1");
        error(1, 8, vault, "#0 = 3 || #0 = 1");
        StringBuilder most = new StringBuilder("#0=9");
        while (most.length() < 150) {
            most.append("|#0=9");
        }
        rows("", vault, most.toString());
        rows("4", vault, most + "|#0<0");
    }

    @Sentence(says = "part = piece { \"&\" piece }")
    private static void aPartHasOneOrMorePieces() {
        ColumnVault vault = fiveRows();
        rows("1 2", vault, "#0 > 0 & #0 < 3");
        rows("2", vault, "#0 > 0 & #0 < 3 & !#1 missing");
        rows("0 2", vault, "#0 = 3 | #0 > 0 & #0 < 2");
        rows("0 2", vault, "#0 > 0 & #0 < 2 | #0 = 3");
        error(1, 0, vault, "& #0 = 3");
        error(1, 8, vault, "#0 = 3 &");
        error(1, 9, vault, "#0 = 3 & & #0 = 1");
        error(1, 9, vault, "#0 = 3 & | #0 = 1");
        StringBuilder most = new StringBuilder("#0<9");
        while (most.length() < 155) {
            most.append("&#0<9");
        }
        rows("0 1 2 3 4", vault, most.toString());
    }

    @Sentence(says = "piece = \"!\" piece | \"(\" filter \")\" | test")
    private static void aPieceIsTurnedOrInBracketsOrATest() {
        ColumnVault vault = fiveRows();
        rows("1 2 3 4", vault, "!#0 = 3");
        rows("0", vault, "!!#0 = 3");
        rows("1", vault, "(#0 = 3 | #0 > 0) & #0 = 2");
        rows("0 3 4", vault, "!(#0 = 1 | #0 = 2)");
        rows("1 2 3 4", vault, "!#0 = 3 & #0 < 9");
        rows("0 1 2", vault, "!(!(!(#0 < 1)))");
        error(1, 1, vault, "()");
        error(1, 1, vault, "!");
        error(1, 7, vault, "(#0 = 3");
        error(1, 7, vault, "#0 = 3 )");
        error(1, 7, vault, "#0 = 3 ! #0 = 1");
        error(1, 7, vault, "#0 = 3 (#0 = 1)");
        error(1, 8, vault, "(#0 = 3 !)");
        error(1, 1, vault, "!)");
        error(1, 3, vault, "#0 !missing");
    }

    @Sentence(says = "test = column ( \"<\" | \">\" | \"=\" ) value | column \"to\" value value | column \"in\" value { value } | column \"missing\"")
    private static void aTestHasAsManyValuesAsItNeeds() {
        ColumnVault vault = fiveRows();
        error(1, 4, vault, "#0 =");
        error(1, 7, vault, "#0 = 1 1");
        error(1, 5, vault, "#0 to");
        error(1, 7, vault, "#0 to 1");
        error(1, 8, vault, "#0 to 1 | #0 = 1");
        error(1, 10, vault, "#0 to 1 2 3");
        error(1, 5, vault, "#0 in");
        error(1, 6, vault, "#0 in & #0 = 1");
        error(1, 11, vault, "#0 missing 1");
        error(1, 5, vault, "#0 < > 1");
        error(1, 2, vault, "#0");
        error(1, 3, vault, "#0 & #0 = 1");
        rows("2", vault, "#0 in 1");
        rows("2 3", vault, "#0 to 0 1");
        rows("2", vault, "#0 to 1 1");
    }

    @Sentence(says = "column = \"#\" digit")
    private static void aColumnHasOneDigit() {
        ColumnVault vault = vault(row(5, "a"));
        rows("0", vault, "#0 = 5");
        rows("0", vault, "#1 = a");
        error(1, 2, vault, "#00 = 5");
        error(1, 2, vault, "#01 = a");
        error(2, 0, vault, "#2 = 5");
        error(2, 0, vault, "#9 = 5");
    }

    @Sentence(says = "value = number | word")
    private static void aValueIsANumberOrAWord() {
        ColumnVault vault = vault(row(5, "a"));
        rows("0", vault, "#0 < 6");
        rows("0", vault, "#1 < b");
        error(1, 5, vault, "#0 < #0");
        error(1, 5, vault, "#0 < (6)");
        error(1, 5, vault, "#1 = A");
        error(1, 5, vault, "#1 = !a");
    }

    // ---- what a test asks

    @Sentence(says = "whether it is less than the value, greater, the same, from the first value to the second one, one of the values (1 to 6 of them), or missing.")
    private static void testsAtTheirLimits() {
        ColumnVault vault = fiveRows();
        rows("3 4", vault, "#0 < 1");
        rows("0 1", vault, "#0 > 1");
        rows("2", vault, "#0 = 1");
        rows("1 2 3", vault, "#0 to 0 2");
        rows("", vault, "#0 to 2 0");
        rows("2", vault, "#0 in 1");
        rows("0 1 2 3 4", vault, "#0 in 3 2 1 0 -1 -1");
        rows("0 4", vault, "#0 in 9 8 7 6 3 -1");
        rows("1 3", vault, "#1 missing");
        rows("", vault, "#0 missing");
        rows("0 1 2 3 4", vault, "#0 < 1000000");
        rows("", vault, "#0 > 1000000");
        rows("", vault, "#0 < -1000000");
        rows("0 1 2 3 4", vault, "#0 to -1000000 1000000");
    }

    @Sentence(says = "whether it is less than the value, greater, the same, from the first value to the second one, one of the values (1 to 6 of them), or missing.")
    private static void testsOfTextsAtTheirLimits() {
        ColumnVault vault = fiveRows();
        rows("4", vault, "#1 < ab");
        rows("0", vault, "#1 > ab");
        rows("2", vault, "#1 = ab");
        rows("2 4", vault, "#1 to a ab");
        rows("2", vault, "#1 to aa az");
        rows("", vault, "#1 to b a");
        rows("", vault, "#1 < a");
        rows("0 2", vault, "#1 > a");
        rows("", vault, "#1 > zzzzzzz");
        rows("0 2 4", vault, "#1 < zzzzzzz");
        rows("0 4", vault, "#1 in c d e aa a b");
    }

    @Sentence(says = "If the value is missing, a test is false, but for \"missing\".")
    private static void testsOfWhatIsMissingAreFalse() {
        ColumnVault vault = vault(row(null, null));
        for (String test : new String[] {"#0 < 1", "#0 > 1", "#0 > -1000000", "#0 < 1000000", "#0 = 0", "#0 to -1000000 1000000", "#0 in 0 1",
            "#1 < zzzzzzz", "#1 > a", "#1 = a", "#1 to a zzzzzzz", "#1 in a b"}) {
            rows("", vault, test);
            rows("0", vault, "!" + test);
        }
        rows("0", vault, "#0 missing");
        rows("0", vault, "#1 missing");
        rows("", vault, "!#1 missing");
    }

    @Sentence(says = "\"!\" is the opposite, \"&\" asks that all of its pieces hold, \"|\" that at least one of its parts does.")
    private static void oppositesAllAndAtLeastOne() {
        ColumnVault vault = fiveRows();
        rows("0 1 3 4", vault, "!#0 = 1");
        rows("2", vault, "!!#0 = 1");
        rows("0 1 3 4", vault, "!!!#0 = 1");
        rows("", vault, "#0 = 1 & #0 = 2");
        rows("1 2", vault, "#0 = 1 | #0 = 2");
        rows("2", vault, "#0 = 1 | #0 = 1");
        rows("", vault, "!(#0 = 1 | !#0 = 1)");
        rows("0 1 2 3 4", vault, "!(#0 = 1 & !#0 = 1)");
    }

    @Sentence(says = "(The digit of a column stands right behind its \"#\"; otherwise it is kind 1 at the byte behind the \"#\", or at the length, if the text ends there.")
    private static void noDigitBehindTheSignOfAColumn() {
        ColumnVault vault = fiveRows();
        error(1, 1, vault, "#");
        error(1, 1, vault, "# 0 = 1");
        error(1, 1, vault, "# ");
        error(1, 1, vault, "#a = 1");
        error(1, 1, vault, "##0 = 1");
        error(1, 1, vault, "#-1 = 1");
        error(1, 1, vault, "#(");
        error(1, 1, vault, "#\u00ff");
        error(1, 3, vault, "!(#");
        error(1, 3, vault, "!(#)");
        error(1, 10, vault, "#0 = 1 & #");
        // where no column can stand, the "#" itself is wrong
        error(1, 7, vault, "#0 = 1 #");
        error(1, 5, vault, "#0 = #");
        error(1, 3, vault, "#0 #");
    }

    @Sentence(says = "In a test, to, in and missing right behind a column are never values.)")
    private static void theWordsBehindAColumn() {
        ColumnVault vault = vault(row(1, "to"), row(2, "in"), row(3, "missing"), row(4, null));
        rows("3", vault, "#1 missing");
        rows("2", vault, "#1 in missing");
        rows("0", vault, "#1 in to");
        rows("0 1 2", vault, "#1 in in to missing");
        rows("0", vault, "#1 = to");
        rows("1", vault, "#1 = in");
        rows("2", vault, "#1 = missing");
        rows("0", vault, "#1 to to to");
        rows("1 2", vault, "#1 to in missing");
        rows("1 2", vault, "#1 < to");
        error(1, 5, vault, "#1 to");
        error(1, 5, vault, "#1 in");
        error(1, 11, vault, "#1 missing to a b");
        error(1, 3, vault, "#1 a");
    }

    // ---- errors

    @Sentence(says = "An error has a kind and a place (bytes of the text are numbered from 0).")
    private static void theFirstByteAndTheLastOne() {
        ColumnVault vault = vault(row(5, "a"));
        error(1, 0, vault, ")");
        error(2, 0, vault, "#3");
        error(1, 5, vault, "#0 = ;");
        error(3, 5, vault, "#0 = a");
    }

    @Sentence(says = "The text is read from the front, and the first error is told")
    private static void ofTwoErrorsTheFirstOneIsTold() {
        ColumnVault vault = vault(row(5, "a"));
        error(3, 5, vault, "#0 = a & #9 = 1");
        error(2, 0, vault, "#9 = a & #0 = )");
        error(2, 0, vault, "#9 5");
        error(2, 0, vault, "#9");
        error(1, 3, vault, "#0 & #9 = 1");
        error(2, 5, vault, "#0 = 1000001 )");
        error(3, 6, vault, "#1 to 1 abcdefgh");
        error(2, 8, vault, "#1 to a abcdefgh 5");
        error(3, 5, vault, "#1 = 5 ;");
        error(1, 0, vault, "; #9");
        error(2, 3, vault, "!!!! #9 = 1");
        error(2, 6, vault, "(((((((");
    }

    @Sentence(says = "kind 1, a byte that begins nothing, or something that cannot stand there, at its first byte")
    private static void bytesThatBeginNothing() {
        for (int sign = 1; sign <= 255; sign++) {
            boolean isToken = sign >= 'a' && sign <= 'z' || sign >= '0' && sign <= '9' || " #!&|()<>=".indexOf(sign) >= 0;
            if (!isToken) {
                error(1, 0, vault(row(5, "a")), "" + (char) sign);
                error(1, 7, vault(row(5, "a")), "#0 = 5 " + (char) sign + "& #0 = 5");
                error(1, 5, vault(row(5, "a")), "#1 = " + (char) sign + "a");
            }
        }
    }

    @Sentence(says = "kind 1, a byte that begins nothing, or something that cannot stand there, at its first byte")
    private static void signsThatCannotStandThere() {
        ColumnVault vault = vault(row(5, "a"));
        for (String sign : new String[] {")", "&", "|", "<", ">", "=", "5", "-5", "abc", "to", "missing", "abcdefgh", "1000001", "Z"}) {
            error(1, 0, vault, sign);
        }
    }

    @Sentence(says = "kind 1, a byte that begins nothing, or something that cannot stand there, at its first byte")
    private static void signsThatCannotStandBehindATest() {
        for (String sign : new String[] {"(", "!", "#0", "#", "<", ">", "=", "5", "-5", "abc", "to", "missing", "abcdefgh", "1000001", "!!!!",
            "(((((((", ")", "Z"}) {
            error(1, 7, vault(row(5, "a")), "#0 = 1 " + sign);
        }
    }

    @Sentence(says = "or, if the text ends too early, its length")
    private static void textsThatEndTooEarly() {
        for (String text : new String[] {"", " ", "   ", "!", "!!!", "(", "((((((", "#0", "#0 ", "#0 <", "#0 to", "#0 to 1", "#0 in", "#0 in  ",
            "#0 = 1 &", "#0 = 1 |", "#0 = 1 | ", "(#0 = 1", "(#0 = 1 ", "((#0 = 1)", "#0 = 1 & !", "#0 = 1 | (", "#"}) {
            error(1, text.length(), vault(row(5, "a")), text);
        }
    }

    @Sentence(says = "a column that the table does not have (at the \"#\")")
    private static void columnsThatTheTableDoesNotHave() {
        ColumnVault vault = new ColumnVault();
        vault.addRow(0);
        for (int columns = 0; columns <= 4; columns++) {
            for (int digit = 0; digit <= 9; digit++) {
                say(vault, " #" + digit + " missing");
                is(digit < columns ? 0 : 2, vault.errorKind(0));
                is(digit < columns ? NONE : 1, vault.errorPlace(0));
            }
            is(columns, columns < 4 ? vault.addColumn(0, NUMBER) : 4);
        }
    }

    @Sentence(says = "a number that is not from -1000000 to 1000000")
    private static void numbersOutOfRange() {
        ColumnVault vault = vault(row(1000000, "a"), row(-1000000, "b"), row(1, "c"), row(0, "d"));
        rows("0", vault, "#0 = 1000000");
        rows("1", vault, "#0 = -1000000");
        rows("0", vault, "#0 = 0001000000");
        error(2, 5, vault, "#0 = 1000001");
        error(2, 5, vault, "#0 = -1000001");
        error(2, 5, vault, "#0 = 10000000");
        // numbers that would be small ones, were they counted in 32 or 64 bits
        error(2, 5, vault, "#0 = 4294967297");
        error(2, 5, vault, "#0 = 18446744073709551617");
        error(2, 5, vault, "#0 = -18446744073709551615");
        error(2, 5, vault, "#0 = 9223372036854775808");
        error(2, 5, vault, "#0 = 36893488147419103232");
        error(2, 5, vault, "#0 = " + "9".repeat(155));
        error(2, 8, vault, "#0 to 1 1000001");
        error(2, 8, vault, "#0 in 1 1000001 2");
    }

    @Sentence(says = "a word of more than 7 letters")
    private static void wordsThatAreTooLong() {
        ColumnVault vault = vault(row(1, "abcdefg"), row(2, "zzzzzzz"));
        rows("0", vault, "#1 = abcdefg");
        rows("1", vault, "#1 = zzzzzzz");
        error(2, 5, vault, "#1 = abcdefgh");
        error(2, 5, vault, "#1 = zzzzzzzz");
        error(2, 5, vault, "#1 = " + "a".repeat(155));
        error(2, 8, vault, "#1 to a abcdefgh");
        error(2, 8, vault, "#1 in a abcdefgh");
    }

    @Sentence(says = "a seventh value of \"in\"")
    private static void theSeventhValue() {
        ColumnVault vault = vault(row(6, "f"), row(7, "g"));
        rows("0", vault, "#0 in 1 2 3 4 5 6");
        rows("0", vault, "#1 in a b c d e f");
        error(2, 18, vault, "#0 in 1 2 3 4 5 6 7");
        error(2, 18, vault, "#1 in a b c d e f g");
        error(2, 18, vault, "#0 in 1 1 1 1 1 1 1");
        error(2, 18, vault, "#0 in 1 2 3 4 5 6 7 8 9");
        error(1, 18, vault, "#0 in 1 2 3 4 5 6 (");
        error(1, 18, vault, "#0 in 1 2 3 4 5 6 ;");
        rows("0", vault, "#0 in 1 2 3 4 5 6 & #0 in 1 2 3 4 5 6");
    }

    @Sentence(says = "a \"(\" within six others that are open")
    private static void sixOpenBracketsAndASeventh() {
        ColumnVault vault = vault(row(1, "a"));
        rows("0", vault, "((((((#0 = 1))))))");
        error(2, 6, vault, "(((((((#0 = 1)))))))");
        error(2, 11, vault, "( ( ( ((( !(#0 = 1)))))))");
        rows("0", vault, "((((((#0 = 1)))))) | ((((((#0 = 1))))))");
        rows("0", vault, "(((((#0 = 1) & (#0 = 1)) & (#0 = 1) | (#0 = 1))))");
        rows("0", vault, "((((((#0 = 1)) | ((#0 = 1))))))");
        error(2, 16, vault, "((((((#0 = 1 & !(");
        error(1, 13, vault, "((((((#0 = 1 (");
    }

    @Sentence(says = "a \"!\" right behind three others")
    private static void threeTurnsAndAFourth() {
        ColumnVault vault = vault(row(1, "a"));
        rows("", vault, "!!!#0 = 1");
        rows("0", vault, "!!#0 = 1");
        error(2, 3, vault, "!!!!#0 = 1");
        error(2, 3, vault, "!!!!!!");
        error(2, 11, vault, "#0 = 1 &!!!!#0 = 1");
        rows("0", vault, "!!!(!!!#0 = 1)");
        rows("", vault, "!!!#0 = 1 & !!!#0 = 1 | !!!#0 = 1");
        error(2, 7, vault, "!!!(!!!!#0 = 1)");
    }

    @Sentence(says = "kind 3, at its first byte, a value that is not of the kind of the column.")
    private static void valuesOfTheOtherKind() {
        ColumnVault vault = vault(row(1, "a"));
        error(3, 5, vault, "#0 = a");
        error(3, 5, vault, "#1 < 1");
        error(3, 5, vault, "#1 > -1");
        error(3, 6, vault, "#0 to a 1");
        error(3, 8, vault, "#0 to 1 a");
        error(3, 6, vault, "#1 in 1");
        error(3, 16, vault, "#1 in a b c d e 1");
        error(3, 8, vault, "#0 in 1 missing");
        error(3, 5, vault, "#0 = abcdefg");
        error(3, 5, vault, "#1 = 1000000");
        // a table can have another kind there
        vault.addColumn(1, TEXT);
        say(vault, "#0 = a");
        is(0, vault.errorKind(1));
        is(3, vault.errorKind(0));
    }

    @Sentence(says = "Of several errors at one place the one with the smallest kind is told.")
    private static void theSmallestKindAtOnePlace() {
        ColumnVault vault = vault(row(1, "a"));
        error(1, 7, vault, "#0 = 1 #9 = 1");
        error(1, 7, vault, "#0 = 1 abcdefgh");
        error(1, 7, vault, "#0 = 1 1000001");
        error(1, 3, vault, "#0 abcdefgh");
        error(1, 5, vault, "#0 < #9");
        error(2, 5, vault, "#1 = 1000001");
        error(2, 5, vault, "#0 = abcdefgh");
        error(2, 18, vault, "#0 in 1 2 3 4 5 6 a");
        error(2, 18, vault, "#0 in 1 2 3 4 5 6 abcdefgh");
        error(1, 13, vault, "((((((#0 = 1 (");
    }

    // ---- reads

    @Sentence(says = "it is worked out for all rows of the table, each test reading one value of each row for which it is asked.")
    private static void eachTestReadsOneValueOfEachRow() {
        ColumnVault vault = numbers(40);
        reads(40, 40, vault, "#0 = 5");
        reads(40, 40, vault, "#0 to 5 6");
        reads(40, 40, vault, "#0 in 1 2 3 4 5 6");
        reads(40, 40, vault, "#0 missing");
        reads(40, 40, vault, "!!!((((((#0 missing))))))");
        vault.turnChoice(0);
        reads(40, 40, vault, "#0 = 5");
        vault.addColumn(1, NUMBER);
        is(0, vault.reads(1, false));
        is(0, vault.reads(1, true));
        vault.addRow(1);
        is(1, vault.reads(1, true));
    }

    @Sentence(says = "Of the pieces of a part each is asked only for those rows for which all pieces ahead of it hold")
    private static void piecesAreAskedWhereThoseAheadHold() {
        ColumnVault vault = numbers(10);
        reads(14, 11, vault, "#0 < 4 & #0 = 1");
        reads(15, 12, vault, "#0 < 4 & #0 > 2 & #0 = 3");
        reads(10, 10, vault, "#0 > 9 & #0 = 1 & #0 = 2");
        reads(30, 30, vault, "#0 < 10 & #0 > -1 & #0 < 99");
        reads(19, 14, vault, "!#0 = 5 & #0 < 4");
    }

    @Sentence(says = "of the parts of a filter each is asked only for those rows for which no part ahead of it holds.")
    private static void partsAreAskedWhereNoneAheadHolds() {
        ColumnVault vault = numbers(10);
        reads(19, 16, vault, "#0 = 1 | #0 < 4");
        reads(10, 10, vault, "#0 < 10 | #0 = 1 | #0 = 2");
        reads(30, 30, vault, "#0 > 9 | #0 < 0 | #0 > 99");
        reads(22, 22, vault, "#0 < 4 & #0 > 1 | #0 > 7");
        reads(20, 16, vault, "#0 > 9 | !(#0 > 3)");
    }

    @Sentence(says = "The pieces and parts can be taken as they are told, or by counts")
    private static void asTheyAreToldOrByCounts() {
        ColumnVault vault = numbers(10);
        reads(31, 16, vault, "#0 < 9 & #0 < 7 & #0 < 5 & #0 < 2");
        reads(16, 16, vault, "#0 < 2 & #0 < 5 & #0 < 7 & #0 < 9");
        reads(26, 13, vault, "#0 < 2 | #0 < 5 | #0 < 7 | #0 < 9");
        reads(13, 13, vault, "#0 < 9 | #0 < 7 | #0 < 5 | #0 < 2");
        // the last one as it is told is the middle one by counts
        reads(12, 12, vault, "#0 = 1 & #0 < 7 & #0 < 4");
        reads(15, 14, vault, "#0 < 7 | #0 = 9 | #0 in 7 8");
    }

    @Sentence(says = "of a part first the piece that holds for the fewest rows of the table, of a filter first the part that holds for the most")
    private static void theFewestOfAPartAndTheMostOfAFilter() {
        ColumnVault vault = numbers(10);
        reads(20, 11, vault, "#0 < 10 & #0 = 5");
        reads(20, 10, vault, "#0 > 9 | #0 < 10");
        // counted are the rows of the table, not those for which it is asked
        reads(14, 16, vault, "#0 < 2 & (#0 > 3 & #0 < 5 | #0 > 6)");
    }

    @Sentence(says = "(of several the one that is told first)")
    private static void ofTheSameCountTheOneThatIsToldFirst() {
        ColumnVault vault = numbers(10);
        reads(13, 14, vault, "#0 < 3 & #0 > 6 & #0 in 0 1");
        reads(13, 12, vault, "#0 > 6 & #0 < 3 & #0 in 0 1");
        reads(21, 20, vault, "#0 < 3 | #0 > 6 | #0 in 0 1 2 3 4");
        reads(21, 17, vault, "#0 > 6 | #0 < 3 | #0 in 0 1 2 3 4");
    }

    @Sentence(says = "and likewise in brackets.")
    private static void byCountsInBrackets() {
        ColumnVault vault = numbers(10);
        reads(20, 11, vault, "(#0 < 10 & #0 = 5)");
        reads(20, 10, vault, "!(#0 > 9 | #0 < 10)");
        reads(20, 11, vault, "((((((#0 < 10 & #0 = 5))))))");
        reads(29, 14, vault, "(#0 < 10 & #0 = 5) | #0 > 3");
    }

    @Sentence(says = "To find out for how many rows they hold reads nothing.")
    private static void countingReadsNothing() {
        ColumnVault vault = numbers(10);
        reads(10, 10, vault, "#0 < 4");
        vault.count(0);
        is(10, vault.reads(0, true));
        is(10, vault.reads(0, true));
        is(10, vault.reads(0, false));
    }
}
