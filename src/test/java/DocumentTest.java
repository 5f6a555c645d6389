import java.io.IOException;
import java.lang.reflect.Constructor;
import java.lang.reflect.Field;
import java.lang.reflect.Member;
import java.lang.reflect.Method;
import java.lang.reflect.Modifier;
import java.lang.reflect.Parameter;
import java.nio.file.Files;
import java.nio.file.Path;
import java.util.ArrayList;
import java.util.Arrays;
import java.util.Collections;
import java.util.List;

/**
 * The document from its first line to its last: each sentence is quoted, in its place, with a run that would show
 * it broken; Document sees to it that none is passed over. The answers that are due were worked out by hand, but for
 * those of many drawn words, which were reckoned apart from the class.
 */
public final class DocumentTest {
    private static final String REST = ";cools 2;far 3;", GOOD = "heats 1" + REST;
    private static final long NO = -4611686018427387904L;
    private final Document doc = new Document();

    private DocumentTest() throws IOException {
    }

    public static void main(String[] args) throws IOException {
        DocumentTest test = new DocumentTest();
        test.whatItIs();
        test.face();
        test.landAndPairs();
        test.refusals();
        test.heats();
        test.cools();
        test.far();
        test.bounds();
        test.tokens();
        test.expressions();
        test.faults();
        test.texts();
        test.wordsAndMinutes();
        test.fewest();
        test.silence();
        test.rows();
        test.toldViews();
        test.drawn();
        test.image();
        test.sheets();
        test.promisesOfLand();
        test.promisesOfTexts();
        test.promisesOfWhatIsSeen();
        test.promisesOfWords();
        test.promisesOfToldViews();
        test.promisesOfImages();
        test.promisesOfTheHost();
        test.notPromised();
        Check.end();
    }

    private void whatItIs() throws IOException {
        doc.read("# NoViewWithoutQuarrel ## What it is");
        doc.says("No view without a quarrel:", "pair 0 0 0 = 0", "view 0 = 0", "clear 0 = 0", "say 0 0 = 5", "view 0 = 5",
            "clear 0 = 31");
        doc.says("a hill from which one sees as far as a pair is at odds,", "pair 0 0 17 = 0", "view 0 = 17",
            "set 3 0 18 = 17", "view 0 = 18");
        doc.says("land of forty miles with a thing at some,", "set 1 0 1 = 0", "set 1 39 7 = 0", "set 1 40 1 ! BAD",
            "count 1 = 2");
        doc.says("up to five pairs of kinds on a bench, each so angry,", "pair 0 0 10 = 0", "pair 1 0 11 = 1",
            "pair 5 0 12 = 2", "pair 3 0 13 = 3", "pair 4 0 14 = 4", "pair 2 0 15 ! FULL", "told 2 4 = 5", "told 4 3 = 14");
        doc.says("six words that make it more or less,").rule("word*2-5", "0", "0").then("pair 0 0 50 = 0", "say 0 5 = 55",
            "say 0 0 = 50", "say 0 2 = 49", "say 0 6 ! BAD");
        doc.says("silence in which it goes;", "pair 0 0 3 = 0", "quiet 1 = 0", "told 0 3 = 1", "quiet 1 = 1",
            "told 0 3 = 0");
        doc.says("by a rule of texts what a word does, how it cools, how far one sees;").rule("7", "4", "anger-9")
            .then("pair 0 0 30 = 0", "told 0 10 = 7", "told 0 6 = 4", "told 0 7 = 21", "force 0 = 1", "told 0 10 = 5",
            "told 0 6 = 2", "told 0 7 = 30");
        doc.says("what each sees, all together, who sees furthest;", "pair 0 0 9 = 0", "pair 5 5 0 = 1", "told 0 7 = 9",
            "told 1 7 = 20", "view 0 = 20", "clear 0 = 1048575", "view 3 = 1");
        doc.says("the fewest words by which a told mile comes clear, by which it is made up, how long it stays clear, the "
            + "word that clears most, by how many rows of words one comes there, which miles cannot be had, whom to say "
            + "it to, by how many words in all each thing is seen by somebody;", "pair 2 1 4 = 0", "set 1 20 3 = 0",
            "fewest 0 12 0 = 1", "words 0 0 = NONE", "stays 0 2 = 1", "words 0 4 = 5", "words 0 5 = 13",
            "rows 0 10 1 0 = 1", "rows 0 10 1 1 = 2", "clear 1 = " + (1L << 39), "whom 20 0 = 0", "view 4 = 2");
        doc.says("what was seen by minutes, read back: of which kind a pair is, how angry it was, by which text;",
            "pair 1 0 10 = 0", "film 0 0 3 = 3", "tells 0 0 1 = 2", "tells 0 0 3 = 1", "tells 0 0 4 = 10",
            "tells 0 0 5 = 1");
        // 12345 is 24 times 512 and some, and 24 leaves 0 by 6.
        doc.says("words that are drawn;", "pair 0 0 0 = 0", "drawn 0 0 1 = 5");
        doc.says("all laid back.", "pair 0 0 9 = 0", "image = 1", "say 0 0 = 14", "back = 1", "told 0 3 = 9");
        doc.says("==== 1 MILES 0 ..", "set 1 0 1 = 0", "set 1 -1 1 ! BAD");
        Run last = doc.says("An object is used for at most 512 calls after it has been made; what later calls answer is "
            + "free.", "pair 0 0 0 = 0");
        for (int call = 2; call < 512; call++) {
            last.then("count 0 = 1");
        }
        last.then("say 0 0 = 5");
    }

    /** The document's own lines, held against the class; what is public there stands here, and the other way round. */
    private void face() throws IOException {
        doc.read("## The public face ```java public final class NoViewWithoutQuarrel {");
        List<String> due = new ArrayList<>();
        for (String line : doc.upTo(" } ```").trim().split(";")) {
            due.add(line.trim().replaceAll(" (what|of|v|kind|number|anger|letter|text|pair|word|n|k|mile|part|sheet|seed|m|"
                + "sort|i|other|j|from)\\b(?! *\\()", ""));
        }
        List<String> got = new ArrayList<>(List.of("public static final int NONE = -1, BAD = -2, STATE = -3, FULL = -4"));
        Class<?> face = NoViewWithoutQuarrel.class;
        Check.holds("public final class", face.getModifiers() == (Modifier.PUBLIC | Modifier.FINAL));
        Check.holds("it extends and implements nothing",
            face.getSuperclass() == Object.class && face.getInterfaces().length == 0);
        got.add("public static final long NO = " + NoViewWithoutQuarrel.NO + "L");
        for (Constructor<?> c : face.getConstructors()) {
            got.add(head(c) + "NoViewWithoutQuarrel(" + types(c.getParameters()) + ")");
        }
        for (Method m : face.getDeclaredMethods()) {
            if (Modifier.isPublic(m.getModifiers())) {
                got.add(head(m) + m.getReturnType() + " " + m.getName() + "(" + types(m.getParameters()) + ")");
            }
        }
        Collections.sort(due);
        Collections.sort(got);
        Check.holds("the public face is " + got + ", due is " + due, got.equals(due));
        Check.holds("NONE, BAD, STATE, FULL", NoViewWithoutQuarrel.NONE == -1 && NoViewWithoutQuarrel.BAD == -2
            && NoViewWithoutQuarrel.STATE == -3 && NoViewWithoutQuarrel.FULL == -4);
        for (Field f : face.getFields()) {
            Check.holds(f + " is a constant", f.toString().startsWith("public static final"));
        }
        Check.due("public constants", face.getFields().length, 5);
        doc.read("} ```");
    }

    private static String head(Member member) {
        return Modifier.toString(member.getModifiers()) + " ";
    }

    private static String types(Parameter[] all) {
        return String.join(", ", Arrays.stream(all).map(p -> p.getType().toString()).toList());
    }

    private void landAndPairs() {
        doc.read("## Terms");
        doc.says("39, at each a THING (0 .. 7; 0: none, at first).", "told 0 1 = 0", "told 39 1 = 0", "told 40 1 = -1000",
            "set 1 39 7 = 0", "set 1 39 8 ! BAD", "set 1 39 -1 ! BAD", "set 1 40 1 ! BAD", "count 1 = 1", "told 39 1 = 7",
            "set 1 39 0 = 7", "count 1 = 0");
        doc.says("HOUR (0 .. 99; 0 at first).", "told 0 0 = 0", "set 0 0 99 = 0", "set 0 0 100 ! BAD", "set 0 0 -1 ! BAD",
            "told 0 0 = 99", "set 0 0 0 = 99");
        doc.says("WORDS 0 .. 5.", "pair 0 0 0 = 0", "say 0 0 = 5", "say 0 5 = 25", "say 0 6 ! BAD", "say 0 -1 ! BAD");
        Run kinds = doc.says("PAIRS (5 at most, numbered from 0) have a KIND: 0 PAIR, 1 WED under PAIR, 2 YOUNG under PAIR, "
            + "3 BITTER under WED, 4 HONEY under YOUNG, 5 ALONE under PAIR;", "pair 1 5 0 = 0", "pair 2 6 0 = 1",
            "pair 3 7 0 = 2", "pair 4 8 0 = 3", "pair 5 9 0 = 4", "pair 0 0 0 ! FULL", "pair 6 0 0 ! BAD",
            "pair -1 0 0 ! BAD");
        String[] under = {"XX....", "X.X...", "XX.X..", "X.X.X.", "X....X"};
        for (int pair = 0; pair < 5; pair++) {
            for (int k = 0; k < 6; k++) {
                kinds.then("taken " + pair + " " + k + " = " + (under[pair].charAt(k) == 'X' ? 5 + pair : -13));
            }
        }
        doc.says("a NUMBER (0 .. 9), an ANGER (0 .. 99), were TOLD so many WORDS (0 .. 9999; 0).", "pair 0 0 99 = 0",
            "pair 0 9 0 = 1", "pair 0 10 0 ! BAD", "pair 0 -1 0 ! BAD", "pair 0 0 100 ! BAD", "pair 0 0 -1 ! BAD",
            "told 0 2 = 0", "told 0 3 = 99", "told 1 2 = 9", "told 1 3 = 0", "told 1 5 = 0", "say 1 0 = 5", "told 1 5 = 1",
            "told 0 5 = 0");
    }

    private void refusals() {
        doc.says("NONE is -1; NO, where a long is answered, -4611686018427387904.", "view 3 = -1", "clear 3 = " + NO,
            "rows 0 0 0 0 = " + NO, "chance 0 1 0 0 0 = " + NO);
        doc.says("Quotients are cut toward 0.").rule("0-7", "0", "0").then("pair 2 0 50 = 0", "told 0 10 = -3",
            "say 0 0 = 47").rule("7", "0", "0").then("told 0 10 = 3");
        doc.says("Refusals, the first that the call's words name; they change nothing:").sheet(0, 1, 6, 0, 0)
            .then("sheet 4 0 -1 ! -2", "copy 9 0 1 0 -1 ! -2", "copy 0 9 1 0 -1 ! -11", "sheet 1 0 1 = 1",
            "copy 0 9 1 0 -1 ! -13", "pairs 0 3 -1 1 ! -2", "pairs 0 0 -1 1 ! -13", "pairs 2 0 -1 1 ! -11",
            "pairs 0 1 -1 1 ! -12", "taken 0 6 ! -2", "taken 0 5 ! -11", "tells 2 0 0 ! -2", "pair 0 0 0 = 0",
            "tells 2 0 8 ! -2", "tells 2 0 0 ! -11", "cell 9 9 9 ! -2", "cell 2 9 9 ! -11", "cell 0 9 9 ! -12");
        doc.says("BAD (-2: a number is none such or not as told),", "say 0 0 ! -2", "set 0 0 100 ! -2", "view 9 ! -2");
        doc.says("STATE (-3),", "back ! -3");
        doc.says("FULL (-4);", "pair 0 0 0 = 0", "pair 0 0 0 = 1", "pair 0 0 0 = 2", "pair 0 0 0 = 3", "pair 0 0 0 = 4",
            "pair 0 0 0 ! -4");
        doc.says("the host's: -11 nothing where something is asked, -12 a place outside, -13 a thing of another sort or "
            + "KIND, -14 a size below 0.", "cell 0 0 0 ! -11", "sheet 0 2 3 = 1", "cell 0 3 0 ! -12",
            "pairs 0 1 0 1 ! -13", "pair 1 0 0 = 0", "taken 0 2 ! -13", "taken 1 0 ! -11", "sheet 0 2 -1 ! -14");
    }

    private void heats() {
        doc.read("```text");
        doc.says("HEATS (at a WORD w, heats telling v; ANGER a): PAIR: v;").rule("word*7-9+anger*2-60", "0", "0")
            .then("pair 0 4 30 = 0", "told 0 10 = -9", "told 0 11 = -2", "told 0 15 = 26", "set 3 0 31 = 30",
            "told 0 15 = 28");
        doc.says("WED: twice a PAIR's, if w is NUMBER modulo 6, else as a PAIR;").rule("word+3", "0", "0")
            .then("pair 1 2 30 = 0", "told 0 12 = 10", "told 0 10 = 3", "told 0 15 = 8", "set 2 0 8 = 2", "told 0 12 = 10",
            "set 2 0 9 = 8", "told 0 13 = 12", "told 0 12 = 5", "say 0 3 = 42", "say 0 2 = 47");
        doc.says("YOUNG: half (cut) of a PAIR's;").rule("word*3-7", "0", "0").then("pair 2 2 30 = 0", "told 0 10 = -3",
            "told 0 11 = -2", "told 0 12 = 0", "told 0 13 = 1", "told 0 14 = 2", "told 0 15 = 4");
        doc.says("BITTER: as a WED, 0 at least;").rule("word*3-7", "0", "0").then("pair 3 3 30 = 0", "told 0 10 = 0",
            "told 0 12 = 0", "told 0 13 = 4", "told 0 14 = 5", "told 0 15 = 8", "set 2 0 6 = 3", "told 0 10 = 0",
            "told 0 13 = 2");
        doc.says("HONEY: 0 less 10, if a is below 20, else as a YOUNG;").rule("9", "0", "0").then("pair 4 0 19 = 0",
            "told 0 10 = -10", "told 0 15 = -10", "set 3 0 0 = 19", "told 0 10 = -10", "set 3 0 20 = 0", "told 0 10 = 4");
        doc.says("ALONE: 0.").rule("9", "0", "0").then("pair 5 0 50 = 0", "told 0 10 = 0", "told 0 15 = 0");
    }

    private void cools() {
        doc.says("COOLS (in a MINUTE of silence, cools telling v): PAIR: v;").rule("0", "anger-40", "0")
            .then("pair 0 0 47 = 0", "told 0 6 = 7", "quiet 1 = 0", "told 0 3 = 40", "told 0 6 = 0");
        doc.says("WED: 1 less than a PAIR;").rule("0", "8", "0").then("pair 1 0 47 = 0", "told 0 6 = 7");
        doc.says("YOUNG: 3 more than a PAIR;").rule("0", "8", "0").then("pair 2 0 47 = 0", "told 0 6 = 11");
        doc.says("BITTER: 0, if a is above 50, else as a WED;").rule("0", "8", "0").then("pair 3 0 50 = 0", "told 0 6 = 7",
            "set 3 0 51 = 50", "told 0 6 = 0", "quiet 99 = 0", "told 0 3 = 51");
        doc.says("HONEY: twice a YOUNG's;").rule("0", "8", "0").then("pair 4 0 47 = 0", "told 0 6 = 22");
        doc.says("ALONE: as a PAIR.").rule("0", "8", "0").then("pair 5 0 47 = 0", "told 0 6 = 8");
    }

    private void far() {
        String v = "anger-20";
        doc.says("FAR (how many MILES one sees, far telling v): PAIR: v;").rule("0", "0", v).then("pair 0 6 47 = 0",
            "told 0 7 = 27", "view 0 = 27");
        doc.says("WED: as a PAIR;").rule("0", "0", v).then("pair 1 6 47 = 0", "told 0 7 = 27");
        doc.says("YOUNG: NUMBER less than a PAIR;").rule("0", "0", v).then("pair 2 6 47 = 0", "told 0 7 = 21");
        doc.says("BITTER: 5 more than a WED;").rule("0", "0", v).then("pair 3 6 47 = 0", "told 0 7 = 32");
        doc.says("HONEY: 0, if a is 0, else as a YOUNG;").rule("0", "0", "anger+20").then("pair 4 6 0 = 0", "told 0 7 = 0",
            "set 3 0 1 = 0", "told 0 7 = 15");
        doc.says("ALONE: 4 times NUMBER.").rule("0", "0", v).then("pair 5 6 47 = 0", "told 0 7 = 24", "set 2 0 9 = 6",
            "told 0 7 = 36", "set 2 0 0 = 9", "told 0 7 = 0");
    }

    private void bounds() {
        doc.says("(HEATS -99 .. 99, COOLS 0 .. 99, FAR 0 .. 40, else the bound: laid once, on what comes out.)")
            .rule("60-word*120", "98", "38").then("pair 1 0 50 = 0", "pair 1 1 50 = 1", "pair 2 0 50 = 2", "pair 4 0 50 = 3",
            "pair 3 0 50 = 4", "told 0 10 = 99", "told 1 10 = 60", "told 0 11 = -60", "told 1 11 = -99", "told 2 6 = 99",
            "told 3 6 = 99", "told 4 7 = 40", "told 4 6 = 97");
        doc.also().rule("0", "0", "3").then("pair 1 0 50 = 0", "pair 2 9 50 = 1", "told 0 6 = 0", "told 1 7 = 0");
    }

    private void fault(String text, int place) {
        doc.also().tape(text).then("text = " + (-100 - place), "count 3 = 1", "count 4 = 0");
    }

    private void isText(String text) {
        doc.also().tape(text).then("text = 1", "count 3 = 2", "count 4 = 0");
    }

    private void tokens() {
        doc.says("A TEXT is read from THE TAPE (160 bytes at most).").tape(GOOD + " ".repeat(160 - GOOD.length()))
            .then("feed 32 ! FULL", "text = 1", "feed 32 = 1");
        doc.says("TOKENS, each as long as can be:").tape("heatsword" + REST).then("text = -100");
        fault("heats wordword" + REST, 6);
        fault("heats 12 34" + REST, 9);
        isText("heats1or 2and 3" + REST);
        doc.says("WORDS (a .. z),").tape("heats Word" + REST).then("text = -106");
        fault("heats wordz" + REST, 6);
        fault("heats aword" + REST, 6);
        fault("heats word`" + REST, 10);
        fault("heats word{" + REST, 10);
        doc.says("NUMBERS (digits, 4 at most),").rule("9999=9*1111", "0042", "7").then("pair 0 0 50 = 0", "told 0 10 = 1",
            "told 0 6 = 42");
        fault("heats 00001" + REST, 6);
        doc.says("SIGNS ( ) ; + - * < = ;").rule("(2+3*4-1<13)=0", "(2+3*4-1<14)=1", "(2+3)*4").then("pair 0 0 50 = 0",
            "told 0 10 = 1", "told 0 6 = 1", "told 0 7 = 20");
        for (String none : new String[] {"/", "%", ">", "!", ",", ":", "[", "{", "_", "&", "|", "\"", "'", "#", "."}) {
            fault("heats 1" + none + "1" + REST, 7);
        }
        doc.says("blanks (32, 10) may stand between.").tape(" \n heats \n 1\n;cools 2 ;\nfar\n3\n; ").then("text = 1");
        for (String none : new String[] {"\t", "\r", "\f", "\0", "\u000b", "\u00a0"}) {
            fault("heats" + none + "1" + REST, 5);
        }
    }

    /** FAR of a PAIR with anger 30 and number 4 where far is that E. */
    private void worth(String e, int due) {
        doc.also().rule("0", "0", e).then("pair 0 4 30 = 0", "told 0 7 = " + due);
    }

    private void expressions() {
        doc.says("TEXT: heats E ; cools E ; far E ;").tape("heats 1;cools 2;far 3").then("text = -121");
        fault("cools 1;heats 2;far 3;", 0);
        fault("heats 1;far 3;cools 2;", 8);
        fault(GOOD + GOOD, 22);
        isText("heats 1 ; cools 2 ; far 3 ;");
        doc.says("E: AND { or AND }.").rule("0", "0", "0 or 0 or 7").then("pair 0 0 0 = 0", "told 0 7 = 1");
        worth("1 or 0 and 0", 1);
        fault("heats or 1" + REST, 6);
        fault("heats 1 or" + REST, 10);
        doc.says("AND: NOT { and NOT }.").rule("0", "0", "7 and 1 and 9").then("pair 0 0 0 = 0", "told 0 7 = 1");
        worth("not 0 and not 0", 1);
        worth("1 and 1 and 0", 0);
        fault("heats 1 and" + REST, 11);
        doc.says("NOT: not NOT, or SUM, perhaps < or = and a SUM.").rule("0", "0", "not not 7").then("pair 0 0 0 = 0",
            "told 0 7 = 1");
        worth("not 1 < 2", 0);
        worth("not 2 = 3", 1);
        worth("1 + 1 < 1 + 2", 1);
        worth("2 * 3 = 5 + 1", 1);
        fault("heats 1<2<3" + REST, 9);
        fault("heats 1=2=3" + REST, 9);
        fault("heats 1<not 2" + REST, 8);
        doc.says("SUM: TERM { + or - TERM }.").rule("0", "0", "20-8-5+1").then("pair 0 0 0 = 0", "told 0 7 = 8");
        fault("heats +1" + REST, 6);
        fault("heats 1+not 2" + REST, 8);
        doc.says("TERM: ONE { * ONE }.").rule("0", "0", "2+3*4*2").then("pair 0 0 0 = 0", "told 0 7 = 26");
        fault("heats 1**2" + REST, 8);
        doc.says("ONE: a NUMBER, a NAME, - ONE, ( E ).").rule("0", "0", "9-(1 or 1)-number*-2--1").then("pair 0 4 0 = 0",
            "told 0 7 = 17");
        worth("--7", 7);
        worth("-(1-8)*2", 14);
        fault("heats ()" + REST, 7);
        doc.says("NAMES are word anger number hour things bench; heats, cools, far, or, and, not are KEYS.")
            .rule("word+anger+number+hour+things+bench", "0", "0").then("pair 0 4 30 = 0", "set 0 0 7 = 0", "set 1 3 1 = 0",
            "told 0 10 = 43", "told 0 15 = 48");
        for (String key : new String[] {"heats", "cools", "far", "or", "and", "not"}) {
            fault("heats 1+" + key + REST, 8);
        }
        doc.says("An E is an int (32 bits, wrapping): of or, and, not, <, = 1 or 0 (what is not 0 is true).")
            .rule("0", "0", "4096*4096*256+7").then("pair 0 0 0 = 0", "told 0 7 = 7");
        worth("4096*4096*128<0", 1);
        worth("5+(7 or 0)", 6);
        worth("5+(7 and -2)", 6);
        worth("5+(0 or -1)", 6);
        worth("5+(0 or 1)", 6);
        worth("5+(-1 or 0)", 6);
        worth("5+(0 or 0)", 5);
        worth("5+(-1 and 1)", 6);
        worth("5+(0 and 1)", 5);
        worth("5+(1 and 0)", 5);
        worth("5+(not -2)", 5);
        worth("5+(not 0)", 6);
        worth("5+(29<anger)+(30=anger)", 7);
        worth("5+(30<anger)+(29=anger)", 5);
    }

    private void faults() {
        doc.says("FAULT: the place of the first byte of the first TOKEN that can't stand there").tape("heats 1  far 2 ? 12345")
            .then("text = -109");
        fault("heats 1;cools 2;cools 3;", 16);
        doc.says("(the text's size, if it ends too early),").tape("heats 1;cools 2;far 3 \n").then("text = -123");
        fault("", 0);
        fault("heats (", 7);
        doc.says("also of a byte that begins none,").tape("heats ?").then("text = -106");
        fault(GOOD + "?", 22);
        doc.says("a WORD that is neither KEY nor NAME,").tape("heats 1+ angry" + REST).then("text = -109");
        doc.says("a NUMBER that is too long,").tape("heats 1+ 10000" + REST).then("text = -109");
        doc.says("a ( , a not, a - ahead of a ONE while 5 of these are open").tape("heats ((((((1))))))" + REST)
            .then("text = -111");
        fault("heats not not not not not not 1" + REST, 26);
        fault("heats ------1" + REST, 11);
        fault("heats not (-(-(1)))" + REST, 14);
        isText("heats (((((1)))))" + REST);
        isText("heats not not not not not 1" + REST);
        isText("heats -----1" + REST);
        isText("heats (((((1-1)))))" + REST);
        doc.says("(a ( till its ) , not and - till what they belong to ends).").tape("heats (((((1)))))+(((((1)))))" + REST)
            .then("text = 1");
        isText("heats -----1*-----1" + REST);
        isText("heats ((((not 1 and (1)))))" + REST);
        fault("heats ((((not 1+(1)))))" + REST, 16);
        fault("heats ((((not 1=(1)))))" + REST, 16);
    }

    private void texts() {
        Run six = doc.says("There are 6 TEXTS at most, TEXT 0 with them.", "count 3 = 1");
        for (int text = 1; text < 6; text++) {
            six.tape(GOOD).then("text = " + text);
        }
        six.then("count 3 = 6").tape(GOOD).then("text ! FULL", "force 5 = 0", "force 6 ! BAD");
        doc.says("Of a PAIR: word: the WORD (of cools, far 0); anger: ANGER; number: NUMBER; hour: HOUR;")
            .rule("word", "word*9+number", "word*9+hour").then("pair 0 4 30 = 0", "set 0 0 7 = 0", "told 0 13 = 3",
            "told 0 6 = 4", "told 0 7 = 7", "say 0 5 = 35", "told 0 6 = 4", "told 0 15 = 5", "told 0 7 = 7", "told 0 15 = 5", "told 0 6 = 4")
            .rule("anger", "anger", "anger")
            .then("told 0 10 = 35", "told 0 6 = 35", "told 0 7 = 35");
        doc.says("things: how many MILES have a THING; bench: how many PAIRS there are.")
            .rule("things", "bench", "things*10+bench").then("set 1 0 7 = 0", "set 1 39 7 = 0", "set 1 9 1 = 0",
            "pair 0 0 0 = 0", "told 0 10 = 3", "told 0 6 = 1", "told 0 7 = 31", "pair 5 0 0 = 1", "told 0 6 = 2",
            "set 1 9 0 = 1", "told 0 10 = 2", "told 0 7 = 22");
        doc.says("heats (-99 .. 99, else the bound), cools (0 .. 99, else the bound), far (0 .. 40, else the bound).")
            .rule("100-word*200", "100-word", "41").then("pair 0 0 50 = 0", "told 0 10 = 99", "told 0 11 = -99",
            "told 0 6 = 99", "told 0 7 = 40", "pair 2 4 50 = 1", "told 1 10 = 49", "told 1 11 = -49", "told 1 7 = 36",
            "pair 1 4 50 = 2", "told 2 6 = 98");
        doc.also().rule("0", "0-1", "0-1").then("pair 0 0 50 = 0", "told 0 6 = 0", "told 0 7 = 0", "pair 2 0 50 = 1",
            "told 1 6 = 3", "pair 3 0 50 = 2", "told 2 7 = 5");
        doc.says("TEXT 0, at first THE RULE, is: heats 5 + word * 3 ; cools 2 ; far anger ;", "count 5 = 0",
            "pair 0 0 33 = 0", "told 0 10 = 5", "told 0 11 = 8", "told 0 12 = 11", "told 0 13 = 14", "told 0 14 = 17",
            "told 0 15 = 20", "told 0 6 = 2", "told 0 7 = 33");
        doc.read("```");
    }

    private void wordsAndMinutes() {
        doc.says("==== 2 AT A WORD ANGER is more by what it HEATS;", "pair 0 0 30 = 0", "say 0 2 = 41", "told 0 3 = 41");
        doc.says("in a MINUTE it is less by what it COOLS", "pair 2 0 30 = 0", "quiet 1 = 0", "told 0 3 = 25");
        doc.says("(0 .. 99, else the bound, both told as it is ahead).", "pair 0 0 95 = 0", "pair 0 0 1 = 1", "say 0 1 = 99",
            "quiet 1 = 1", "told 0 3 = 97", "told 1 3 = 0");
        doc.also().rule("(anger=30)*9-(30<anger)*50", "(anger=39)*4", "0").then("pair 0 0 30 = 0", "say 0 0 = 39",
            "quiet 2 = 0", "told 0 3 = 35", "say 0 0 = 0");
        doc.says("SEES: MILES below FAR.", "pair 0 0 9 = 0", "clear 0 = 511", "stays 0 8 = 1", "stays 0 9 = 0",
            "fewest 0 9 0 = 0", "whom 8 1 = 0", "whom 9 1 = 1");
        doc.says("CLEAR (a MILE): some PAIR SEES it.", "pair 0 0 3 = 0", "pair 5 2 0 = 1", "clear 0 = 255", "set 3 0 10 = 3",
            "clear 0 = 1023");
        doc.says("A SAYING, truly: a WORD to a PAIR: TOLD is 1 more (9999 at most).", "pair 0 0 3 = 0", "pair 0 0 3 = 1",
            "say 1 0 = 8", "say 1 5 = 28", "told 1 5 = 2", "told 0 5 = 0", "told 0 3 = 3");
        doc.says("A MINUTE, truly: all PAIRS, each.", "pair 0 0 30 = 0", "pair 1 0 30 = 1", "pair 2 0 30 = 2",
            "pair 4 0 30 = 3", "pair 5 0 30 = 4", "quiet 2 = 0", "told 0 3 = 26", "told 1 3 = 28", "told 2 3 = 20",
            "told 3 3 = 10", "told 4 3 = 26", "count 2 = 0");
        doc.read("```text");
    }

    private void fewest() {
        doc.says("FEWEST (a PAIR, k 0 .. 40): the least number of WORDS by which it SEES k MILES or more;", "pair 0 0 0 = 0",
            "fewest 0 0 0 = 0", "fewest 0 20 0 = 1", "fewest 0 21 0 = 2", "fewest 0 40 0 = 2", "set 3 0 1 = 0",
            "fewest 0 40 0 = 2", "fewest 0 41 0 ! BAD", "fewest 0 -1 0 ! BAD");
        // 5, 8, 11, 14, 17, 20 more: 19 by 17 or 20 alone, 21 not by 5 and 14 but by 5 and 17.
        doc.says("the first such row", "pair 0 0 0 = 0", "fewest 0 15 1 = 5", "fewest 0 19 1 = 6", "fewest 0 21 1 = 15",
            "fewest 0 23 1 = 16", "fewest 0 26 1 = 26");
        doc.says("(digits: 1 more than each, the first the highest; 9 WORDS at most, else NONE);")
            .rule("(anger=0)*(word=1)+(anger=1)*(word=4)+(1<anger)*(word=0)", "0", "anger").then("pair 0 0 0 = 0",
            "fewest 0 2 1 = 25", "fewest 0 4 1 = 2511", "fewest 0 9 1 = 251111111", "fewest 0 9 0 = 9",
            "fewest 0 10 1 = NONE", "fewest 0 10 0 = 10");
        doc.says("NONE: never.", "pair 5 9 0 = 0", "fewest 0 36 0 = 0", "fewest 0 37 0 = NONE", "fewest 0 37 1 = NONE");
        doc.says("PEACE: the least number by which ANGER is 0; NONE.").rule("word-3", "0", "0").then("pair 0 0 7 = 0",
            "words 0 0 = 3", "set 3 0 6 = 7", "words 0 0 = 2", "set 3 0 0 = 6", "words 0 0 = 0", "pair 3 0 1 = 1",
            "words 1 0 = NONE");
    }

    private void silence() {
        doc.says("STAYS (a PAIR, a MILE): how many MINUTES of silence it SEES it yet (0: not now; 100: 100 or more).",
            "pair 0 0 20 = 0", "stays 0 19 = 1", "stays 0 17 = 2", "stays 0 0 = 10", "stays 0 20 = 0", "pair 5 1 0 = 1",
            "stays 1 3 = 100", "stays 1 4 = 0");
        doc.also().rule("0", "1", "anger").then("pair 0 0 99 = 0", "stays 0 0 = 99", "stays 0 39 = 60");
        doc.says("REACHED: of ANGERS that can be come to by WORDS: how many, the least, the most.")
            .rule("(word=0)*20-(word=1)*30", "0", "0").then("pair 0 0 50 = 0", "words 0 2 = 0", "words 0 3 = 99",
            "words 0 1 = 20", "pair 5 0 50 = 1", "words 1 1 = 1", "words 1 2 = 50", "words 1 3 = 50");
        doc.says("BEST WORD: that by which FAR would be most at once; of like ones the first.", "pair 0 0 10 = 0",
            "words 0 4 = 5", "words 0 5 = 30", "set 3 0 26 = 10", "words 0 4 = 3", "words 0 5 = 40", "pair 1 1 10 = 1",
            "words 1 4 = 5", "words 1 5 = 30", "set 2 1 4 = 1", "words 1 4 = 4", "words 1 5 = 40", "set 3 0 34 = 26",
            "words 0 4 = 1", "set 3 0 35 = 34", "words 0 4 = 0");
    }

    private void rows() {
        doc.says("ROWS (a PAIR, k, n 0 .. 20): by how many rows of n WORDS it SEES k MILES or more then, by all: part 0 "
            + "above, 1 below the line, in lowest terms.", "pair 0 0 0 = 0", "rows 0 17 1 0 = 1", "rows 0 17 1 1 = 3",
            "rows 0 37 2 0 = 1", "rows 0 37 2 1 = 12", "rows 0 40 20 0 = 1", "rows 0 40 20 1 = 1", "rows 0 0 0 0 = 1",
            "rows 0 1 0 0 = 0", "rows 0 1 0 1 = 1", "rows 0 0 21 0 ! NO", "rows 0 0 -1 0 ! NO", "rows 0 0 0 2 ! NO");
        doc.says("WHOM (a MILE): the PAIR that needs fewest WORDS to SEE it; of like ones the first; NONE.", "whom 9 0 = NONE",
            "pair 0 0 0 = 0", "pair 0 0 0 = 1", "pair 1 5 0 = 2", "pair 5 3 0 = 3", "whom 12 0 = 0", "whom 30 0 = 2",
            "whom 11 0 = 3", "whom 11 1 = 0", "whom 12 1 = 1", "whom 30 1 = 1");
        doc.says("BLIND: MILES that no PAIR can come to SEE by any WORDS.", "clear 1 = ALL", "pair 5 9 0 = 0",
            "clear 1 = " + (15L << 36), "pair 2 2 0 = 1", "clear 1 = " + (3L << 38), "pair 0 0 0 = 2", "clear 1 = 0");
        doc.says("ALL THINGS: how many WORDS it takes till the furthest MILE with a THING is CLEAR (of WHOM; all nearer ones "
            + "are, too, then); 0: no THINGS; NONE.", "pair 0 0 0 = 0", "view 4 = 0", "set 1 5 1 = 0", "view 4 = 1",
            "set 1 30 1 = 0", "view 4 = 2", "pair 1 5 0 = 1", "view 4 = 1", "say 1 5 = 40", "view 4 = 0", "view 1 = 2");
        doc.also("set 1 36 1 = 0", "view 4 = NONE", "pair 5 9 0 = 0", "view 4 = NONE", "set 1 36 0 = 1", "view 4 = 0");
    }

    private void toldViews() {
        doc.says("TOLD: a SHEET tells FAR of a PAIR behind 0, 1, .. MINUTES of silence (40 at most numbers): the first (from "
            + "0) that is otherwise; NONE;", "pair 0 0 9 = 0").sheet(0, 0, 9, 7, 5, 3, 1, 0).then("tells 0 0 0 = NONE",
            "cell 0 5 1 = 1", "tells 0 0 0 = 5", "cell 0 0 8 = 1", "tells 0 0 0 = 0", "sheet 0 0 41 ! BAD");
        doc.says("KINDS (bits 0 .. 5),", "pair 0 0 9 = 0").sheet(0, 1, 9).then("tells 0 0 1 = 23").sheet(0, 1, 9, 4)
            .then("tells 0 0 1 = 4").sheet(0, 1, 14, 13).then("tells 0 0 1 = 8").sheet(0, 1, 0).then("tells 0 0 1 = 32");
        doc.says("NUMBERS (bits 0 .. 9),", "pair 2 0 20 = 0").sheet(0, 2, 11, 6).then("tells 0 0 2 = 512", "cell 0 0 20 = 1",
            "cell 0 1 15 = 1", "tells 0 0 2 = 1", "cell 0 0 21 = 1", "tells 0 0 2 = 0");
        doc.says("ANGERS (of 0 .. 99: how many, the least),", "pair 0 0 0 = 0").sheet(0, 0, 40, 40).then("tells 0 0 3 = 58",
            "tells 0 0 4 = 42", "cell 0 1 39 = 1", "tells 0 0 3 = 1", "tells 0 0 4 = 41", "cell 0 1 37 = 1",
            "tells 0 0 3 = 0", "tells 0 0 4 = NONE", "cell 0 0 0 = 1", "cell 0 1 0 = 1", "tells 0 0 3 = 1", "tells 0 0 4 = 0");
        doc.also().rule("0", "0", "anger-98").then("pair 0 0 0 = 0").sheet(0, 0, 1).then("tells 0 0 3 = 1",
            "tells 0 0 4 = 99", "cell 0 0 2 = 1", "tells 0 0 3 = 0", "tells 0 0 4 = NONE");
        doc.says("TEXTS (bits), were they THE RULE, by which all would be so;", "pair 0 0 9 = 0").rule("0", "3", "anger")
            .sheet(0, 0, 9, 7).then("tells 0 0 5 = 1", "cell 0 1 6 = 1", "tells 0 0 5 = 2", "cell 0 1 5 = 1",
            "tells 0 0 5 = 0").sheet(0, 0, 9).then("tells 0 0 5 = 3");
        doc.says("WORDS (bits 0 .. 5) by which, were one said now, all would be so behind it;", "pair 0 0 9 = 0")
            .sheet(0, 0, 14, 12).then("tells 0 0 6 = 1", "cell 0 0 29 = 1", "tells 0 0 6 = 0", "cell 0 1 27 = 1",
            "tells 0 0 6 = 32", "told 0 3 = 9");
        doc.says("PAIRS (bits).", "pair 0 0 9 = 0", "pair 1 0 9 = 1", "pair 0 5 9 = 2", "pair 5 2 9 = 3").sheet(0, 0, 9, 7)
            .then("tells 0 0 7 = 5", "cell 0 1 8 = 1", "tells 0 0 7 = 2").sheet(0, 0, 8).then("tells 0 0 7 = 8");
    }

    private void drawn() {
        // Where heats is word - anger, ANGER is the word that was said last, and FAR shows it.
        // From 0: 12345; 12345 * 1103515245 + 12345 is 3554416254 in 32 bits: 6942219 512ths, which leave 3.
        doc.says("DRAWN by a SEED: n WORDS (0 .. 99), each (z >>> 9) % 6, z being z * 1103515245 + 12345 (an int; SEED at "
            + "first) anew for each: FAR at last.").rule("word-anger", "0", "anger").then("pair 0 0 33 = 0",
            "drawn 0 0 0 = 33", "drawn 0 0 1 = 0", "drawn 0 0 2 = 3", "drawn 1 0 1 = 1", "drawn -1 0 1 = 0",
            "drawn 0 0 99 = 0", "drawn 0 0 100 ! BAD", "drawn 0 0 -1 ! BAD", "told 0 3 = 33");
        Run seeds = doc.says("IN m seeds (1 .. 20), SEED and each 1 more (an int), 8 WORDS: of these those by which that is k "
            + "(0 .. 40) or more.").rule("word-anger", "0", "anger").then("pair 0 0 33 = 0", "chance 0 0 0 0 0 ! NO",
            "chance 0 21 0 0 0 ! NO", "chance 0 1 0 0 0 = 1", "chance 0 1 0 6 0 = 0", "chance 0 1 0 40 1 = 1");
        for (int k = 0; k <= 6; k++) {
            int above = 0;
            for (int i = 0; i < 20; i++) {
                above += eighth(Integer.MAX_VALUE - 7 + i) >= k ? 1 : 0;
            }
            int shared = java.math.BigInteger.valueOf(above).gcd(java.math.BigInteger.valueOf(20)).intValue();
            seeds.then("chance 2147483640 20 0 " + k + " 0 = " + above / shared,
                "chance 2147483640 20 0 " + k + " 1 = " + 20 / shared);
        }
    }

    /** The eighth word that is drawn by a seed, in longs. */
    private static int eighth(int seed) {
        long z = seed;
        for (int i = 0; i < 8; i++) {
            z = (z * 1103515245L + 12345L) & 0xffffffffL;
        }
        return (int) ((z >> 9) % 6);
    }

    private void image() {
        doc.says("AN IMAGE keeps THINGS, HOUR, NUMBERS, ANGERS, TOLD, THE RULE (PAIRS that came since go).", "set 1 3 3 = 0",
            "set 0 0 9 = 0", "pair 1 2 3 = 0", "say 0 0 = 8", "image = 1").rule("1", "1", "1").sheet(2, 0, 7)
            .then("set 1 3 0 = 3", "set 1 4 1 = 0", "set 0 0 8 = 9", "set 2 0 3 = 2", "set 3 0 99 = 8", "say 0 0 = 99",
            "pair 0 0 0 = 1", "feed 32 = 1", "back = 1", "told 3 1 = 3", "told 4 1 = 0", "told 0 0 = 9", "told 0 2 = 2",
            "told 0 3 = 8", "told 0 5 = 1", "count 5 = 0", "count 0 = 1", "told 0 4 = 1", "count 3 = 2", "count 4 = 1",
            "cell 2 0 1 = 1");
        doc.also("image = 0", "pair 1 2 3 = 0", "say 0 0 = 8", "back = 0", "count 0 = 0", "count 2 = 0", "pair 2 4 30 = 0",
            "told 0 4 = 2", "told 0 5 = 0", "count 2 = 0");
        doc.says("Many MILES are told as a long: bit m for MILE m.", "pair 0 0 40 = 0", "set 1 0 1 = 0", "clear 2 = 1",
            "set 1 39 1 = 0", "clear 2 = " + (1 + (1L << 39)), "clear 0 = ALL", "set 1 0 0 = 1", "clear 2 = 549755813888");
        doc.read("```");
    }

    private void sheets() throws IOException {
        Run four = doc.says("==== 3 SHEETS 0 .. 3 are rows of numbers, or missing (as all are at first): of sort 0 bytes, 1 "
            + "shorts, 2 ints.", "cell -1 0 0 ! BAD", "cell 4 0 0 ! BAD");
        for (int sheet = 0; sheet < 4; sheet++) {
            four.then("cell " + sheet + " 0 0 ! -11", "sheet " + sheet + " " + sheet % 3 + " 3 = 1",
                "cell " + sheet + " 2 65635 = 1", "pairs " + sheet + " " + sheet % 3 + " 0 1 = " + (sheet == 2 ? 0 : 1));
        }
        String source = Files.readString(Path.of("src/main/java/NoViewWithoutQuarrel.java"));
        header(source, "land, pairs", "set", "pair", "told");
        header(source, "texts", "feed", "text", "force");
        header(source, "words, silence, what is seen", "say", "quiet", "view", "clear");
        header(source, "what words can do", "fewest", "words", "stays", "rows", "whom");
        header(source, "views that were told", "tells", "film", "drawn", "chance", "image", "back", "count");
        header(source, "the host", "sheet", "cell", "copy", "pairs", "taken");
    }

    /** The class says it, too, ahead of these calls, which stand in the document's order. */
    private void header(String source, String says, String... calls) {
        doc.read("Ahead of the calls `" + String.join("`, `", calls) + "` the interface says: ---- " + says + ".");
        int at = source.indexOf("// ---- " + says + "\n");
        int next = source.indexOf("// ---- ", at + 1);
        Check.holds("the class says ---- " + says, at >= 0);
        for (String call : calls) {
            int place = source.indexOf(" " + call + "(int", at);
            int without = source.indexOf(" " + call + "()", at);
            int first = place < 0 || without >= 0 && without < place ? without : place;
            Check.holds(call + " stands behind ---- " + says, first > at && first < next);
            at = Math.max(at, first);
        }
    }

    private void promisesOfLand() {
        doc.read("## Promise 1: A new object `NoViewWithoutQuarrel()`:");
        doc.says("No PAIRS, no THINGS.", "count 0 = 0", "count 1 = 0", "told 0 3 = -1000", "view 3 = NONE", "view 4 = 0");
        doc.read("## Promise 2: set `int set(int what, int of, int v)`:");
        doc.says("HOUR (what 0; of does not matter), the THING at a MILE (1), NUMBER (2), ANGER (3) of a PAIR becomes v: what "
            + "it was.", "pair 0 1 2 = 0", "pair 0 3 4 = 1", "set 0 MIN 5 = 0", "set 0 MAX 6 = 5", "told 0 0 = 6",
            "set 1 7 3 = 0", "set 1 7 4 = 3", "told 7 1 = 4", "set 2 1 9 = 3", "told 1 2 = 9", "told 0 2 = 1",
            "set 3 1 99 = 4", "told 1 3 = 99", "told 0 3 = 2");
        doc.says("BAD.", "pair 0 1 2 = 0", "set 4 0 0 ! BAD", "set -1 0 0 ! BAD", "set 0 0 100 ! BAD", "set 1 40 0 ! BAD",
            "set 1 0 8 ! BAD", "set 2 1 0 ! BAD", "set 2 0 10 ! BAD", "set 3 1 0 ! BAD", "set 3 0 100 ! BAD");
        doc.read("## Promise 3: pair `int pair(int kind, int number, int anger)`:");
        doc.says("A PAIR: its number.", "pair 3 4 5 = 0", "pair 1 0 0 = 1", "told 0 4 = 3", "told 0 2 = 4", "told 0 3 = 5");
        doc.says("BAD; FULL.", "pair 6 0 0 ! BAD", "pair 0 10 0 ! BAD", "pair 0 0 100 ! BAD", "pair 0 0 0 = 0",
            "pair 0 0 0 = 1", "pair 0 0 0 = 2", "pair 0 0 0 = 3", "pair 0 0 0 = 4", "pair 0 0 0 ! FULL",
            "pair 0 0 100 ! BAD");
        doc.read("## Promise 4: told `int told(int of, int what)`:");
        doc.says("What 0 .. 3 as of set(), 4 KIND, 5 TOLD, 6 COOLS, 7 FAR of a PAIR;", "pair 1 4 30 = 0", "set 0 0 8 = 0",
            "set 1 9 2 = 0", "say 0 0 = 35", "told 99 0 ! 8", "told 9 1 ! 2", "told 0 2 ! 4", "told 0 3 ! 35",
            "told 0 4 ! 1", "told 0 5 ! 1", "told 0 6 ! 1", "told 0 7 ! 35");
        doc.says("10 .. 15 HEATS at WORD what less 10.", "pair 1 4 30 = 0", "told 0 10 = 5", "told 0 11 = 8",
            "told 0 12 = 11", "told 0 13 = 14", "told 0 14 = 34", "told 0 15 = 20");
        doc.says("-1000: none such.", "pair 0 0 0 = 0", "told 0 8 ! -1000", "told 0 9 ! -1000", "told 0 16 ! -1000",
            "told 0 -1 ! -1000", "told 1 2 ! -1000", "told -1 7 ! -1000", "told 40 1 ! -1000", "told 1 15 ! -1000");
    }

    private void promisesOfTexts() {
        doc.read("## Promise 5: feed `int feed(int letter)`:");
        doc.says("A byte (0 .. 255) comes behind THE TAPE: how many it has.", "feed 0 = 1", "feed 255 = 2", "count 4 = 2");
        Run full = doc.says("BAD; FULL.", "feed 256 ! BAD", "feed -1 ! BAD").tape(" ".repeat(160));
        full.then("feed 32 ! FULL", "feed 256 ! BAD", "count 4 = 160");
        doc.read("## Promise 6: text `int text()`:");
        doc.says("THE TAPE, which is empty then, is a TEXT: its number;").tape(GOOD).then("text = 1", "count 4 = 0",
            "feed 32 = 1").tape(GOOD).then("text = 2", "count 4 = 0");
        doc.says("-100 less the place of its FAULT.").tape("heats 1;cools 2;far ;").then("text = -120", "count 4 = 0",
            "count 3 = 1", "text = -100");
        Run stays = doc.says("FULL: no TEXT more has room (THE TAPE stays).");
        for (int text = 1; text <= 5; text++) {
            stays.tape(GOOD).then("text = " + text);
        }
        stays.tape(GOOD).then("text ! FULL", "count 4 = 22", "feed 32 = 23");
        doc.read("## Promise 7: force `int force(int text)`:");
        doc.says("A TEXT is THE RULE: which was.").tape(GOOD).then("text = 1", "pair 0 0 9 = 0", "told 0 7 = 9", "force 1 = 0",
            "told 0 7 = 3", "count 5 = 1", "force 1 = 1", "force 0 = 1", "told 0 7 = 9");
        doc.says("BAD.", "force 1 ! BAD", "force -1 ! BAD", "force 6 ! BAD", "force 0 = 0");
    }

    private void promisesOfWhatIsSeen() {
        doc.read("## Promise 8: say `int say(int pair, int word)`:");
        doc.says("A SAYING, truly: ANGER then.", "pair 0 0 30 = 0", "say 0 2 = 41", "told 0 3 = 41", "told 0 5 = 1");
        doc.says("BAD.", "say 0 0 ! BAD", "pair 0 0 30 = 0", "say 1 0 ! BAD", "say -1 0 ! BAD", "say 0 6 ! BAD",
            "say 0 -1 ! BAD");
        doc.read("## Promise 9: quiet `int quiet(int n)`:");
        doc.says("n MINUTES (0 .. 99), truly: how many PAIRS are not angry then (ANGER 0).", "quiet 5 = 0", "pair 0 0 7 = 0",
            "pair 1 0 7 = 1", "pair 3 0 51 = 2", "quiet 0 = 0", "quiet 3 = 0", "told 0 3 = 1", "told 1 3 = 4", "quiet 1 = 1",
            "quiet 99 = 2", "told 2 3 = 51");
        doc.says("BAD.", "pair 0 0 7 = 0", "quiet 100 ! BAD", "quiet -1 ! BAD");
        doc.read("## Promise 10: view `int view(int what)`:");
        doc.says("What is seen now: how far by any PAIR (what 0), how many THINGS (1), the furthest THING (2; 0: none), who "
            + "SEES furthest (3; of like ones the first; NONE: no PAIRS), ALL THINGS (4; NONE).", "view 0 = 0", "view 1 = 0",
            "view 2 = 0", "view 3 = NONE", "view 4 = 0", "set 1 10 5 = 0", "set 1 2 5 = 0", "set 1 11 6 = 0",
            "view 4 = NONE", "pair 5 1 0 = 0", "pair 0 0 11 = 1", "pair 1 0 11 = 2", "view 0 = 11", "view 1 = 2",
            "view 2 = 5", "view 3 = 1", "view 4 = 1", "set 3 2 12 = 11", "view 0 = 12", "view 1 = 3", "view 2 = 6",
            "view 3 = 2", "view 4 = 0");
        doc.also("set 1 0 7 = 0", "pair 0 0 0 = 0", "view 1 = 0", "view 2 = 0", "view 4 = 1", "say 0 0 = 5", "view 1 = 1",
            "view 2 = 7", "view 4 = 0");
        doc.says("BAD.", "view 5 ! BAD", "view -1 ! BAD");
        doc.read("## Promise 11: clear `long clear(int what)`:");
        doc.says("CLEAR MILES (what 0), BLIND (1), CLEAR ones with a THING (2).", "set 1 2 1 = 0", "set 1 9 1 = 0",
            "pair 5 2 0 = 0", "clear 0 = 255", "clear 1 = " + ((1L << 40) - 256), "clear 2 = 4");
        doc.says("NO.", "clear 3 ! NO", "clear -1 ! NO");
    }

    private void promisesOfWords() {
        doc.read("## Promise 12: fewest `int fewest(int pair, int k, int what)`:");
        doc.says("FEWEST: how many (what 0; NONE), the row (1; 0: it SEES so far; NONE).", "pair 0 0 9 = 0",
            "fewest 0 30 0 ! 2", "fewest 0 30 1 ! 15", "fewest 0 9 0 ! 0", "fewest 0 9 1 ! 0", "pair 5 0 0 = 1",
            "fewest 1 1 0 ! NONE", "fewest 1 1 1 ! NONE");
        doc.says("BAD.", "pair 0 0 9 = 0", "fewest 1 0 0 ! BAD", "fewest -1 0 0 ! BAD", "fewest 0 41 0 ! BAD",
            "fewest 0 -1 0 ! BAD", "fewest 0 0 2 ! BAD", "fewest 0 0 -1 ! BAD");
        doc.read("## Promise 13: words `int words(int pair, int what)`:");
        doc.says("PEACE (what 0; NONE), REACHED: how many (1), the least (2), the most (3), BEST WORD (4), FAR then (5).",
            "pair 4 0 15 = 0", "words 0 0 ! 2", "words 0 1 ! 3", "words 0 2 ! 0", "words 0 3 ! 15", "words 0 4 ! 0",
            "words 0 5 ! 5", "set 3 0 20 = 15", "words 0 0 ! NONE", "words 0 4 ! 5", "words 0 5 ! 30");
        doc.says("BAD.", "pair 0 0 9 = 0", "words 1 0 ! BAD", "words -1 0 ! BAD", "words 0 6 ! BAD", "words 0 -1 ! BAD");
        doc.read("## Promise 14: stays `int stays(int pair, int mile)`:");
        doc.says("STAYS.", "pair 0 0 9 = 0", "stays 0 0 ! 5", "stays 0 8 ! 1", "stays 0 9 ! 0");
        doc.says("BAD.", "pair 0 0 9 = 0", "stays 1 0 ! BAD", "stays -1 0 ! BAD", "stays 0 40 ! BAD", "stays 0 -1 ! BAD");
        doc.read("## Promise 15: rows `long rows(int pair, int k, int n, int part)`:");
        doc.says("ROWS.", "pair 0 0 9 = 0", "rows 0 26 1 0 ! 1", "rows 0 26 1 1 ! 3");
        doc.says("NO.", "pair 0 0 9 = 0", "rows 1 0 0 0 ! NO", "rows 0 41 0 0 ! NO", "rows 0 -1 0 0 ! NO",
            "rows 0 0 21 0 ! NO", "rows 0 0 -1 0 ! NO", "rows 0 0 0 2 ! NO", "rows 0 0 0 -1 ! NO");
        doc.read("## Promise 16: whom `int whom(int mile, int what)`:");
        doc.says("WHOM (what 0; NONE), how many WORDS (1; NONE).", "whom 0 0 ! NONE", "whom 0 1 ! NONE", "pair 0 0 9 = 0",
            "pair 0 0 20 = 1", "whom 25 0 ! 0", "whom 25 1 ! 1", "whom 29 0 ! 1", "whom 29 1 ! 1", "whom 39 0 ! 1",
            "whom 39 1 ! 1");
        doc.says("BAD.", "whom 40 0 ! BAD", "whom -1 0 ! BAD", "whom 0 2 ! BAD", "whom 0 -1 ! BAD");
    }

    private void promisesOfToldViews() {
        doc.read("## Promise 17: tells `int tells(int sheet, int pair, int what)`:");
        doc.says("TOLD of a PAIR: the first that is otherwise (what 0; NONE), KINDS (1), NUMBERS (2), ANGERS: how many (3), the "
            + "least (4; NONE), TEXTS (5), WORDS (6), PAIRS (7).", "pair 0 0 9 = 0", "pair 1 0 9 = 1").sheet(3, 2, 9, 8)
            .then("tells 3 0 0 ! 1", "tells 3 0 1 ! 2", "tells 3 0 2 ! 0", "tells 3 0 3 ! 0", "tells 3 0 4 ! NONE",
            "tells 3 0 5 ! 0", "tells 3 0 6 ! 0", "tells 3 0 7 ! 2", "tells 3 1 0 ! NONE", "tells 3 1 2 ! 1023",
            "tells 3 1 3 ! 1", "tells 3 1 4 ! 9", "tells 3 1 5 ! 1", "tells 3 1 7 ! 2", "set 3 1 1 = 9", "tells 3 1 6 ! 2");
        doc.says("BAD: SHEET, no such PAIR, what; -11.", "pair 0 0 9 = 0", "tells 4 0 0 ! BAD", "tells -1 0 0 ! BAD",
            "tells 0 1 0 ! BAD", "tells 0 -1 0 ! BAD", "tells 0 0 8 ! BAD", "tells 0 0 -1 ! BAD", "tells 0 0 0 ! -11");
        doc.read("## Promise 18: film `int film(int sheet, int pair, int n)`:");
        doc.says("A SHEET truly becomes FAR of a PAIR behind 0, 1, .. MINUTES, n (0 .. 40) numbers (bytes): n.",
            "pair 0 0 5 = 0", "sheet 1 2 9 = 1", "film 1 0 3 = 3", "pairs 1 0 0 1 = 1", "told 1 4 = 5", "told 1 2 = 3",
            "told 1 3 = 1", "cell 1 3 0 = -12", "film 1 0 40 = 40", "cell 1 39 0 = 1", "film 1 0 0 = 0", "cell 1 0 0 = -12",
            "told 0 3 = 5");
        doc.says("BAD.", "pair 0 0 5 = 0", "film 4 0 1 ! BAD", "film -1 0 1 ! BAD", "film 0 1 1 ! BAD", "film 0 -1 1 ! BAD",
            "film 0 0 41 ! BAD", "film 0 0 -1 ! BAD");
        doc.read("## Promise 19: drawn `int drawn(int seed, int pair, int n)`:");
        doc.says("DRAWN.", "pair 0 0 9 = 0", "drawn 0 0 0 ! 9", "drawn 0 0 1 ! 14", "drawn 0 0 2 ! 28");
        doc.says("BAD: no such PAIR, n.", "pair 0 0 9 = 0", "drawn 0 1 0 ! BAD", "drawn 0 -1 0 ! BAD", "drawn 0 0 100 ! BAD",
            "drawn 0 0 -1 ! BAD");
        doc.read("## Promise 20: chance `long chance(int seed, int m, int pair, int k, int part)`:");
        doc.says("IN m seeds: part 0 above, 1 below the line, in lowest terms.", "pair 0 0 0 = 0", "pair 5 3 0 = 1",
            "chance 0 20 0 40 0 ! 1", "chance 0 20 0 40 1 ! 1", "chance 0 20 1 12 0 ! 1", "chance 0 20 1 13 0 ! 0",
            "chance 0 20 1 13 1 ! 1");
        doc.says("NO: no such PAIR, m, k, part.", "pair 0 0 0 = 0", "chance 0 1 1 0 0 ! NO", "chance 0 0 0 0 0 ! NO",
            "chance 0 21 0 0 0 ! NO", "chance 0 1 0 41 0 ! NO", "chance 0 1 0 -1 0 ! NO", "chance 0 1 0 0 2 ! NO",
            "chance 0 1 0 0 -1 ! NO");
    }

    private void promisesOfImages() {
        doc.read("## Promise 21: image `int image()`:");
        doc.says("AN IMAGE is kept: how many PAIRS.", "image = 0", "pair 0 0 0 = 0", "image = 1", "image = 1");
        doc.read("## Promise 22: back `int back()`:");
        doc.says("All that it keeps is as in THE IMAGE: how many PAIRS.", "pair 0 0 9 = 0", "image = 1", "pair 0 0 0 = 1",
            "quiet 1 = 1", "back = 1", "told 0 3 = 9", "say 0 0 = 14", "back = 1", "told 0 3 = 9");
        doc.says("STATE: there is none.", "back ! STATE", "image = 0", "back = 0");
        doc.read("## Promise 23: count `int count(int what)`:");
        doc.says("How many: 0 PAIRS, 1 MILES with a THING, 2 TOLD of all, 3 TEXTS, 4 bytes of THE TAPE, 5 THE RULE.",
            "pair 0 0 0 = 0", "pair 0 0 0 = 1", "pair 0 0 0 = 2", "set 1 3 7 = 0", "set 1 4 7 = 0", "say 0 0 = 5",
            "say 1 0 = 5", "say 1 0 = 10", "say 1 0 = 15").rule("1", "2", "3").tape("heats").then("count 0 ! 3",
            "count 1 ! 2", "count 2 ! 4", "count 3 ! 2", "count 4 ! 5", "count 5 ! 1");
        doc.says("BAD.", "count 6 ! BAD", "count -1 ! BAD");
    }

    private void promisesOfTheHost() {
        doc.read("## Promise 24: sheet `int sheet(int sheet, int sort, int n)`:");
        doc.says("A SHEET becomes a row of n of a sort, all 0, or missing (sort -1: n does not matter): 1.", "pair 0 0 0 = 0")
            .sheet(0, 1, 5, 5).then("sheet 0 1 3 = 1", "tells 0 0 0 = NONE", "cell 0 2 1 = 1", "cell 0 3 1 = -12",
            "sheet 0 -1 MIN = 1", "cell 0 0 0 = -11", "sheet 0 2 40 = 1", "cell 0 39 0 = 1", "sheet 0 -1 41 = 1",
            "cell 0 0 0 = -11", "sheet 0 0 0 = 1", "cell 0 0 0 = -12");
        doc.says("BAD: no such SHEET, sort; n above 40; -14.", "sheet 4 0 1 ! BAD", "sheet -1 0 1 ! BAD", "sheet 0 3 1 ! BAD",
            "sheet 0 -2 1 ! BAD", "sheet 0 0 41 ! BAD", "sheet 0 0 -1 ! -14", "sheet 0 3 -1 ! BAD");
        doc.read("## Promise 25: cell `int cell(int sheet, int i, int v)`:");
        doc.says("Item i of a SHEET becomes v (of bytes, shorts its lowest 8, 16 bits): 1.", "pair 0 0 9 = 0")
            .sheet(0, 0, 265).sheet(1, 1, 65545).sheet(2, 2, 65545).then("tells 0 0 0 = NONE", "tells 1 0 0 = NONE",
            "tells 2 0 0 = 0", "cell 1 0 265 = 1", "tells 1 0 0 = 0", "cell 2 0 9 = 1", "tells 2 0 0 = NONE");
        doc.says("BAD: no such SHEET; -11; -12.", "sheet 0 0 2 = 1", "cell 4 0 0 ! BAD", "cell -1 0 0 ! BAD",
            "cell 1 0 0 ! -11", "cell 0 2 0 ! -12", "cell 0 -1 0 ! -12");
        doc.read("## Promise 26: copy `int copy(int sheet, int i, int other, int j, int n)`:");
        doc.says("n numbers of a SHEET, from item i on, come to another one's item j on (as they were): n.", "pair 0 0 9 = 0")
            .sheet(0, 1, 4, 9, 7, 5).sheet(1, 1, 0, 0, 0).then("copy 0 1 1 0 3 = 3", "tells 1 0 0 = NONE",
            "copy 0 1 0 0 3 = 3", "tells 0 0 0 = 3", "copy 0 0 0 1 3 = 3", "copy 0 1 1 0 3 = 3", "tells 1 0 0 = NONE",
            "copy 0 0 1 0 0 = 0");
        doc.says("BAD: no such SHEET; -11; -13: they are of unlike sorts; -12 (also with n below 0).").sheet(0, 1, 4, 9)
            .sheet(1, 0, 0, 0).sheet(2, 1, 0).then("copy 4 0 0 0 1 ! BAD", "copy 0 0 4 0 1 ! BAD", "copy 3 0 0 0 1 ! -11",
            "copy 0 0 3 0 1 ! -11", "copy 0 0 1 0 1 ! -13", "copy 0 0 2 0 2 ! -12", "copy 0 2 2 0 1 ! -12",
            "copy 0 -1 2 0 1 ! -12", "copy 0 0 2 -1 1 ! -12", "copy 0 0 2 0 -1 ! -12");
        doc.read("## Promise 27: pairs `int pairs(int sheet, int sort, int from, int n)`:");
        doc.says("PAIRS by a SHEET that is taken for one of a sort: from one on, three by three (as of pair()), n of them (0 .. "
            + "5): how many came (others are left out).").sheet(0, 2, 9, 1, 2, 3, 6, 0, 0, 5, 4, 99).then(
            "pairs 0 2 1 3 = 2", "count 0 = 2", "told 0 4 = 1", "told 0 2 = 2", "told 0 3 = 3", "told 1 4 = 5",
            "told 1 2 = 4", "told 1 3 = 99", "pairs 0 2 0 0 = 0", "pairs 0 2 1 3 = 2", "pairs 0 2 1 3 = 1", "count 0 = 5");
        doc.also("sheet 0 1 15 = 1", "pairs 0 1 0 5 = 5", "count 0 = 5");
        doc.says("BAD: no such SHEET, sort, n; -13; -11; -12: what stood ahead came.").sheet(0, 2, 0, 1, 2, 3, 4)
            .then("pairs 4 2 0 1 ! BAD", "pairs 0 3 0 1 ! BAD", "pairs 0 -1 0 1 ! BAD", "pairs 0 2 0 6 ! BAD",
            "pairs 0 2 0 -1 ! BAD", "pairs 0 1 0 1 ! -13", "pairs 1 1 0 1 ! -11", "pairs 0 2 3 1 ! -12",
            "pairs 0 2 -1 1 ! -12", "pairs 0 2 0 2 = -12", "count 0 = 1", "told 0 2 = 1", "told 0 3 = 2");
        doc.read("## Promise 28: taken `int taken(int pair, int k)`:");
        doc.says("A PAIR taken for one of KIND k (0 .. 5), or one under that one (also by others between): its NUMBER.",
            "pair 3 7 0 = 0", "pair 1 8 0 = 1", "taken 0 3 ! 7", "taken 0 1 ! 7", "taken 0 0 ! 7", "taken 1 1 ! 8",
            "taken 1 0 ! 8");
        doc.says("BAD: k; -11: no such PAIR; -13.", "pair 3 7 0 = 0", "pair 1 8 0 = 1", "taken 0 6 ! BAD",
            "taken 9 -1 ! BAD", "taken 2 0 ! -11", "taken -1 0 ! -11", "taken 0 2 ! -13", "taken 1 3 ! -13");
    }

    private void notPromised() {
        doc.read("## Not promised How the state is held inside the object is free, as are the speed of each call, the text of "
            + "toString and the behaviour of equals and hashCode. Use of one object from several threads at once is not "
            + "promised to be safe. Nothing is promised beyond the answers and state changes described above, and nothing "
            + "about an object after its 512th call.");
        doc.end();
    }
}
