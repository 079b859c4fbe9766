/** Promises 18 to 20: feed, trim, program, and the language of PROGRAMS. */
public final class TapeTest {
    public static void main(String[] args) {
        feed();
        trim();
        program();
        statements();
        faults();
        limits();
        words();
        elseAndNames();
        blanks();
        numbers();
        theFirstFault();
        signs();
        machinesLoseIt();
        Due.end();
    }

    private static void feed() {
        DarkBase b = new DarkBase();
        for (int n = 1; n <= 8; n++) {
            Due.is("feed", b.feed(0, 0, 0), 12 * n);
        }
        Due.is("full", b.feed(0, 0, 0), DarkBase.FULL);
        Due.is("ninety-six", b.count(8), 96);
        b.trim(85);
        Due.is("one too many", b.feed(0, 0, 0), DarkBase.FULL);
        b.trim(84);
        Due.is("just enough", b.feed(0, 0, 0), 96);
        b.trim(0);
        b.feed(0x77616974, 0x20676f20, 0x31203220);
        Due.is("the highest first", b.program(0), 2);
        b.feed(0x77616974, 0x20ff2020, 0);
        Due.is("bytes above 127 are signs", b.program(0), -105);
    }

    private static void trim() {
        DarkBase b = new DarkBase();
        Due.is("empty", b.trim(0), 0);
        Due.is("more than it has", b.trim(1), DarkBase.BAD);
        b.feed(0x77616974, 0, 0);
        Due.is("below", b.trim(-1), DarkBase.BAD);
        Due.is("above", b.trim(13), DarkBase.BAD);
        Due.is("stays", b.count(8), 12);
        Due.is("all", b.trim(12), 12);
        Due.is("some", b.trim(4), 4);
        Due.is("four", b.count(8), 4);
        Due.is("cut off", b.trim(5), DarkBase.BAD);
        Due.is("the first four", b.program(0), 1);
    }

    private static void program() {
        DarkBase b = new DarkBase();
        Due.tape(b, "wait");
        Due.is("program 6", b.program(6), DarkBase.BAD);
        Due.is("used up by bad", b.count(8), 0);
        Due.tape(b, "wait");
        Due.is("program -1", b.program(-1), DarkBase.BAD);
        for (int p = 0; p < 6; p++) {
            Due.is("program", Due.program(b, p, "wait"), 1);
            Due.is("used up", b.count(8), 0);
            Due.is("told", b.count(3), p + 1);
        }
        Due.is("fault", Due.program(b, 2, "wait x"), -105);
        Due.is("used up by a fault", b.count(8), 0);
        Due.is("empty then", b.count(3), 5);
        b.machine(0, 1);
        Due.is("none to send", b.send(0, 2), DarkBase.NO);
    }

    private static void statements() {
        DarkBase b = new DarkBase();
        String[] texts = {"go 1 2", "  scoop  ", "drop fuse charge mend wait", "until c", "if c{wait}", "if c{wait}else{drop}",
            "while c { wait wait }", "repeat 9999 { wait }", "if c{if k{wait}else{drop}}else{while 1{scoop}}drop",
            "until c|k&w<s+d*i", "until!c", "until(c)wait", "until 1-2-3>4", "go 0001 0", "repeat 0{wait}",
            "until ((((((((c))))))))", "until !!!!!!!!c", "until !(!!!!!!!c)", "until (c)&(((((((c)))))))",
            "until b=t|x=y", "if c{wait}if c{wait}", "repeat 2{repeat 2{repeat 2{repeat 2{wait}}}}"};
        int[] due = {1, 1, 5, 1, 2, 3, 3, 2, 7, 1, 1, 2, 1, 1, 2, 1, 1, 1, 1, 1, 4, 5};
        for (int i = 0; i < texts.length; i++) {
            Due.is(texts[i], Due.program(b, 0, texts[i]), due[i]);
        }
    }

    private static void faults() {
        DarkBase b = new DarkBase();
        String[] texts = {"", "   ", "x", "wait x", "waitt", "Wait", "go", "go ", "go 1", "go 1 2 3", "go 12345 1", "go1 2", "go 1a",
            "go 1 2wait", "go c 1", "scoop 1", "}", "wait }", "{wait}", "if", "if c", "if c wait", "if c{", "if c{}", "if c{wait",
            "if c{wait}else", "if c{wait}else wait", "if c{wait}else{}", "if c{wait}else{wait}else{wait}", "else{wait}",
            "while{wait}", "while c{wait}else{wait}", "repeat c{wait}", "repeat 3 wait", "repeat 3", "repeat 12345{wait}",
            "until", "until c c", "until cc", "until a", "until 5c", "until 5wait", "until c5", "until c<k<w", "until c=k>w",
            "until c<", "until c+", "until +c", "until c**k", "until (c", "until (c]", "until ()", "until c)", "until !", "until c!",
            "until c{wait}", "until -1", "until c&&k", "until c||k", "until 00001", "wait\twait", "wait\nwait", "wait;", "until c / 2",
            "if c{wait}wait}", "until (c wait)", "until c<k+", "ifc{wait}", "if 1{wait}elsewait", "wait\u0000"};
        int[] due = {0, 3, 0, 5, 0, 0, 2, 3, 4, 7, 3, 2, 4, 6, 3, 6, 0, 5, 0, 2, 4, 5, 5, 5, 9, 14, 15, 15, 20, 0, 5, 13, 7, 9, 8, 7,
            5, 8, 6, 6, 7, 7, 7, 9, 9, 8, 8, 6, 8, 8, 8, 7, 7, 7, 7, 7, 6, 8, 8, 6, 4, 4, 4, 8, 14, 9, 10, 0, 10, 4};
        for (int i = 0; i < texts.length; i++) {
            Due.is("<" + texts[i] + ">", Due.program(b, 0, texts[i]), -100 - due[i]);
        }
    }

    private static void limits() {
        DarkBase b = new DarkBase();
        Due.is("the fifth {", Due.program(b, 0, "while c{if c{repeat 1{if c{if c{wait}}}}}"), -131);
        Due.is("four, and four", Due.program(b, 0, "if c{if c{if c{if c{wait}}}}if c{if c{if c{if c{wait}}}}"), 10);
        Due.is("the fourth {, of else", Due.program(b, 0, "if c{if c{if c{if c{wait}else{wait}}}}"), 6);
        Due.is("the fifth {, within else", Due.program(b, 0, "if c{if c{if c{if c{wait}else{if c{wait}}}}}"), -134);
        Due.is("the fifth {, of while", Due.program(b, 0, "if c{if c{if c{if c{while c{wait}}}}}"), -127);
        Due.is("the fifth {, of repeat", Due.program(b, 0, "if c{if c{if c{if c{repeat 2{wait}}}}}"), -128);
        Due.is("the fifth { that is none", Due.program(b, 0, "if c{if c{if c{if c{{"), -120);
        Due.is("the ninth (", Due.program(b, 0, "until (((((((((c)))))))))"), -114);
        Due.is("nine ( side by side", Due.program(b, 0, "until (c)+(c)+(c)+(c)+(c)+(c)+(c)+(c)+(c)"), 1);
        Due.is("the ninth !", Due.program(b, 0, "until !!!!!!!!!c"), -114);
        Due.is("the ninth ! within (", Due.program(b, 0, "until !!!!(!!!!(!c))"), -116);
        Due.is("closed by its part", Due.program(b, 0, "until !!!!(!!!!c)&!!!!!!!!c"), 1);
        Due.is("( within ! within (", Due.program(b, 0, "until (((((((!(!(c)))))))))"), -116);
        Due.is("ninety-six bytes", Due.program(b, 0, "wait ".repeat(19) + " "), 19);
        Due.is("the end of ninety-six", Due.program(b, 0, "wait ".repeat(18) + "until "), -196);
        Due.is("the end, four open", Due.program(b, 0, "if c{if c{if c{if c{wait"), -124);
        Due.is("the end, one open", Due.program(b, 0, "if c{if c{if c{if c{wait}}} "), -128);
        Due.is("one } too many", Due.program(b, 0, "if c{if c{if c{if c{wait}}}}}"), -128);
        Due.is("one ) too few", Due.program(b, 0, "until ((((((((c)))))))"), -122);
        Due.is("one ) too many", Due.program(b, 0, "until ((((((((c)))))))))"), -123);
        Due.is("the ninth ( within !", Due.program(b, 0, "until !((((!(((((c"), -116);
        Due.is("the ninth ! behind (", Due.program(b, 0, "until !!!!!!!(!(c)&!(!c))"), -121);
        Due.is("all of it one sum", Due.program(b, 0, "until " + "c+".repeat(44) + "cc"), -194);
        Due.is("all of it one sum that goes", Due.program(b, 0, "until " + "c+".repeat(44) + "c "), 1);
    }

    /** A word that is one letter off, shorter or longer is no word, and the fault is its first byte. */
    private static void words() {
        String[] words = {"go", "scoop", "drop", "fuse", "charge", "mend", "wait", "until", "if", "while", "repeat", "else"};
        String[] behind = {" 1 2", "", "", "", "", "", "", " c", " c{wait}", " c{wait}", " 2{wait}", "{wait}"};
        int[] due = {1, 1, 1, 1, 1, 1, 1, 1, 2, 2, 2, 3};
        for (int i = 0; i < words.length; i++) {
            DarkBase b = new DarkBase();
            String word = words[i], ahead = word.equals("else") ? "if c{wait}" : "  ";
            int start = -100 - ahead.length();
            Due.is(word, Due.program(b, 0, ahead + word + behind[i]), due[i]);
            for (int at = 0; at < word.length(); at++) {
                char next = word.charAt(at) == 'z' ? 'a' : (char) (word.charAt(at) + 1);
                String off = word.substring(0, at) + next + word.substring(at + 1);
                Due.is(off, Due.program(b, 0, ahead + off + behind[i]), start);
            }
            Due.is("shorter", Due.program(b, 0, ahead + word.substring(0, word.length() - 1) + behind[i]), start);
            Due.is("its end", Due.program(b, 0, ahead + word.substring(1) + behind[i]), start);
            Due.is("with an a", Due.program(b, 0, ahead + word + "a" + behind[i]), start);
            Due.is("with a z", Due.program(b, 0, ahead + word + "z" + behind[i]), start);
            Due.is("ahead of it, too", Due.program(b, 0, ahead + "z" + word + behind[i]), start);
            Due.is("a capital", Due.program(b, 0, ahead + (char) (word.charAt(0) - 32) + word.substring(1) + behind[i]), start);
            Due.is("torn apart", Due.program(b, 0, ahead + word.charAt(0) + " " + word.substring(1) + behind[i]), start);
            Due.is("as a name", Due.program(b, 0, "until " + word + behind[i]), -106);
            Due.is("as a number", Due.program(b, 0, "go 3 " + word + behind[i]), -105);
        }
    }

    private static void elseAndNames() {
        DarkBase b = new DarkBase();
        String[] texts = {"until else", "if c{wait}c", "if c{wait}c{wait}", "if c{wait}5", "if else{wait}", "until c else{wait}",
            "if c{wait}else else{wait}", "if c{wait} wait else{wait}", "c", "until ac", "until ca", "go c c", "repeat else{wait}"};
        int[] due = {6, 10, 10, 10, 3, 8, 15, 16, 0, 6, 6, 3, 7};
        for (int i = 0; i < texts.length; i++) {
            Due.is("<" + texts[i] + ">", Due.program(b, 0, texts[i]), -100 - due[i]);
        }
    }

    /** Blanks may be between all, and must be between words alone. */
    private static void blanks() {
        DarkBase b = new DarkBase();
        Due.is("everywhere", Due.program(b, 0, "  if  (  !  c  +  1  )  <  2  {  wait  }  else  {  drop  }  go  1  2  "), 4);
        Due.is("nowhere", Due.program(b, 0, "if(!c+1)<2{wait}else{drop}until(c)wait"), 5);
        Due.is("needed behind a number", Due.program(b, 0, "until 1wait"), -107);
        Due.is("needed behind a word", Due.program(b, 0, "repeat2{wait}"), -106);
        Due.is("needed between numbers", Due.program(b, 0, "go 12"), -105);
        Due.is("needed between words", Due.program(b, 0, "waitwait"), -100);
        Due.is("not needed behind signs", Due.program(b, 0, "until!1 if 1{wait}wait"), 4);
        Due.is("none alone", Due.program(b, 0, " ".repeat(96)), -196);
        Due.is("at both ends", Due.program(b, 0, " ".repeat(46) + "wait" + " ".repeat(46)), 1);
        Due.is("not within a word", Due.program(b, 0, "wa it"), -100);
    }

    private static void numbers() {
        DarkBase b = new DarkBase();
        String[] good = {"go 9999 0", "go 0 9999", "go 0000 0001", "until 9999", "until 0", "repeat 0{wait}", "repeat 0009{wait}"};
        int[] many = {1, 1, 1, 1, 1, 2, 2};
        for (int i = 0; i < good.length; i++) {
            Due.is(good[i], Due.program(b, 0, good[i]), many[i]);
        }
        String[] bad = {"go 10000 0", "go 0 10000", "go 00000 1", "until 10000", "repeat 00000{wait}", "go 1", "go -1 2", "repeat{wait}",
            "until 1 2", "go 1 2 3", "repeat 2 2{wait}", "until 123456789012345"};
        int[] due = {3, 5, 3, 6, 7, 4, 3, 6, 8, 7, 9, 6};
        for (int i = 0; i < bad.length; i++) {
            Due.is(bad[i], Due.program(b, 0, bad[i]), -100 - due[i]);
        }
    }

    private static void theFirstFault() {
        DarkBase b = new DarkBase();
        Due.is("of two words", Due.program(b, 0, "wait x y"), -105);
        Due.is("of a word and a sign", Due.program(b, 0, "until (c ; x"), -109);
        Due.is("of a word and the end", Due.program(b, 0, "if x y"), -105);
        Due.is("in byte 0", Due.program(b, 0, "# wait"), -100);
        Due.is("of a part, within all else", Due.program(b, 0, "if !(c+)"), -107);
        Due.is("in the last byte", Due.program(b, 0, "wait" + " ".repeat(91) + "x"), -195);
        Due.is("of what stands behind a whole one", Due.program(b, 0, "wait wait wait }"), -115);
        Due.is("and it is empty", b.count(3), 0);
    }

    private static void signs() {
        for (int sign = 0; sign < 256; sign++) {
            boolean isWord = sign >= 'a' && sign <= 'z' || sign >= '0' && sign <= '9';
            if (sign != ' ' && !isWord) {
                Due.is("sign " + sign, Due.program(new DarkBase(), 0, "wait" + (char) sign + "wait"), -104);
                Due.is("sign " + sign + " as a part", Due.program(new DarkBase(), 0, "until " + (char) sign),
                    sign == '(' || sign == '!' ? -107 : -106);
            }
        }
        DarkBase b = new DarkBase();
        String names = "ckwsdibtxy";
        for (char name = 'a'; name <= 'z'; name++) {
            int due = names.indexOf(name) >= 0 ? 1 : -106;
            Due.is("name " + name, Due.program(b, 0, "until " + name), due);
        }
    }

    private static void machinesLoseIt() {
        String[] texts = {"drop", "fault"};
        for (String text : texts) {
            DarkBase b = new DarkBase();
            b.rule(4, 0);
            b.machine(0, 1);
            b.machine(0, 2);
            Due.order(b, 0, 0, "while 1{wait}");
            Due.order(b, 1, 1, "while 1{wait}");
            b.run(1);
            Due.is("runs", b.has(0, 6), 0);
            b.program(6);
            b.program(-1);
            Due.is("runs on", b.has(0, 6), 0);
            Due.program(b, 0, text);
            Due.is("none any more", b.has(0, 6), DarkBase.NONE);
            Due.is("the other one", b.has(1, 6), 1);
        }
    }
}
