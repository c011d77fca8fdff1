/** Point (4), and STEMMING: its inventor's examples, and each sentence at its edges. */
final class StemTest {
    private static final String CONSONANTS = "bcdfghjklmnpqrstvwxz";
    private static final String VOWELS = "aeiou";

    private static final String EXAMPLES = """
        caresses caress  ponies poni  ties ti  caress caress  cats cat
        feed feed  agreed agre  plastered plaster  bled bled  motoring motor  sing sing
        conflated conflat  troubled troubl  sized size  hopping hop  tanned tan  falling fall
        hissing hiss  fizzed fizz  failing fail  filing file  happy happi  sky sky
        relational relat  conditional condit  rational ration  valenci valenc  hesitanci hesit
        digitizer digit  conformabli conform  radicalli radic  differentli differ  vileli vile
        analogousli analog  vietnamization vietnam  predication predic  operator oper
        feudalism feudal  decisiveness decis  hopefulness hope  callousness callous
        formaliti formal  sensitiviti sensit  sensibiliti sensibl
        triplicate triplic  formative form  formalize formal  electriciti electr
        electrical electr  hopeful hope  goodness good
        revival reviv  allowance allow  inference infer  airliner airlin  gyroscopic gyroscop
        adjustable adjust  defensible defens  irritant irrit  replacement replac
        adjustment adjust  dependent depend  adoption adopt  homologou homolog
        communism commun  activate activ  angulariti angular  homologous homolog
        effective effect  bowdlerize bowdler
        probate probat  rate rate  cease ceas  controll control  roll roll
        """;

    public static void main(String[] args) {
        Checks.about("STEMMING, by its inventor's examples");
        stems(EXAMPLES);
        moreThanTwo();
        allSmallLetters();
        vowels();
        letterY();
        measure();
        cvc();
        doubled();
        eachStepTakesWhatIsLeft();
        longestAlone();
        endingIsTheWord();
        step1a();
        step1b();
        after1b();
        step1c();
        step2();
        step3();
        step4();
        step5a();
        step5b();
        Checks.finish();
    }

    private static void stems(String pairs) {
        String[] words = pairs.trim().split("\\s+");
        for (int k = 0; k < words.length; k += 2) {
            Checks.dueTokens(words[k], "0:" + words[k + 1]);
        }
    }

    private static void moreThanTwo() {
        Checks.about("(4) If it has more than two CHARACTERS");
        Checks.dueTokens("us es ss ed y ay he", "0:us 1:es 2:ss 3:ed 4:y 5:ay 6:he");
        Checks.dueTokens("bus yes gay ape hes aed", "0:bu 1:ye 2:gai 3:ap 4:he 5:a");
        Checks.dueTokens("us's bus's ed's aed's", "0:us 1:bu 2:ed 3:a");
    }

    private static void allSmallLetters() {
        Checks.about("(4) and all are a .. z");
        Checks.dueTokens("azs zas AZS Zas", "0:az 1:za 2:az 3:za");
        Checks.dueTokens("1cats cat1s cats1 _cats cat_s cats_", "0:1cats 1:cat1s 2:cats1 3:_cats 4:cat_s 5:cats_");
        Checks.dueTokens("\u00e9cats c\u00e1ts cat\u00e9s \u03c3\u03c3s caf\u00e9s na\u00efves",
            "0:\u00e9cats 1:c\u00e1ts 2:cat\u00e9s 3:\u03c3\u03c3s 4:caf\u00e9s 5:na\u00efves");
        Checks.dueTokens("x.ings x'ings o\u2019ings x\u00b7ings \u0455\u0455\u0455s",
            "0:x.ings 1:x'ings 2:o\u2019ings 3:x\u00b7ings 4:\u0455\u0455\u0455s");
        Checks.dueTokens("CATS Running IES'S Cat's", "0:cat 1:run 2:i 3:cat");
    }

    private static void vowels() {
        Checks.about("A letter is a vowel if it's a, e, i, o, u; else a consonant");
        for (char c : VOWELS.toCharArray()) {
            stems("b" + c + "ing b" + c + "  b" + c + "ful b" + c + "ful");
        }
        for (char c : CONSONANTS.toCharArray()) {
            stems("b" + c + "ing b" + c + "ing  a" + c + "ful a" + c);
        }
    }

    private static void letterY() {
        Checks.about("or a y whose letter before is there and no vowel");
        stems("ying ying  yed yed  bying by  bbying bby  yyy yyi  yying yy");
        stems("yful yful  byful byful  ybful ybful  yyful yyful  ayful ay  yayful yay  syzful syz");
        stems("byyful byy  byyyful byyy  eyed ei  dyed dy  dying dy  crying cry  toy toi  syzygy syzygi");
        for (char c : VOWELS.toCharArray()) {
            stems(c + "yful " + c + "y");
        }
        for (char c : CONSONANTS.toCharArray()) {
            stems(c + "yful " + c + "yful");
        }
    }

    private static void measure() {
        Checks.about("m of a stem: how often in it a vowel has a consonant right behind it");
        stems("trful trful  eeful eeful  treeful treeful  byful byful");
        stems("troubleful troubl  oatsful oats  treesful trees  ivyful ivy");
        stems("troublant troublant  oatsant oatsant  treesant treesant  ivyant ivyant");
        stems("troublesant troubles  privatant privat  oatenant oaten  orrerant orrer");
        stems("abal abal  abbal abbal  aabal aabal  ababal abab  abbabbal abbabb  baabaabal baabaab");
    }

    private static void cvc() {
        Checks.about("A stem is CVC if its last three letters are consonant, vowel, consonant, the last one not w, x, y");
        for (char c : "bcdfghjklmnpqrstvz".toCharArray()) {
            stems("bu" + c + "ing bu" + c + "e  bu" + c + "e bu" + c + "e");
        }
        stems("buwing buw  buxing bux  buying bui  buwe buw  buxe bux  buye buy");
        for (char c : VOWELS.toCharArray()) {
            stems("bu" + c + "ing bu" + c + "  b" + c + "king b" + c + "ke  e" + c + "king e" + c + "k");
        }
        stems("abuaing abua  abuae abua  abuee abue  abaaing abaa  abiae abia");
        stems("oming om  aping ap  ope op  ooming oom  oome oom  bukking buk  bulking bulk  bulke bulk");
        stems("yoking yoke  typing type  yoke yoke  type type  yyking yyke  ayking ayk");
        stems("snowing snow  boxed box  playing plai  saving save  hoped hope");
    }

    private static void doubled() {
        Checks.about("It's DOUBLE if its last two letters are the same, a consonant");
        for (char c : "bcdfghjkmnpqrtvwx".toCharArray()) {
            stems("bu" + c + c + "ing bu" + c + "  bu" + c + c + "ed bu" + c);
        }
        for (char c : VOWELS.toCharArray()) {
            stems("bu" + c + c + "ing bu" + c + c);
        }
        stems("bupbing bupb  bumping bump  bubing bube  ebbing eb  buyying buyi  abbbing abb");
        Checks.about("It's DOUBLE if its last two letters are the same, a consonant: of two y's the last decides");
        stems("byying by");
    }

    private static void eachStepTakesWhatIsLeft() {
        Checks.about("Each step takes what the one before left");
        stems("generalizations gener  oscillators oscil  feeds feed  hoppings hop  agreeds agre  tableds tabl");
        stems("hopefulnesses hope  relationals relat  electricitis electr  bagatelles bagatel  happys happi");
        stems("ationally ation  sensibility sensibl  authenticated authent  rationalized ration");
    }

    private static void longestAlone() {
        Checks.about("the longest ending of its list that the word has is looked at alone");
        stems("freed freed  element element  agreement agreement  ornament ornament  basement basement");
        stems("cement cement  nationals nation  caressess caressess  bization bizat  bational bation");
        Checks.about("if what is asked of the stem isn't so, the step does nothing");
        stems("bled bled  sing sing  feed feed  sky sky  opinion opinion");
    }

    private static void endingIsTheWord() {
        Checks.about("nothing, if the ending is the whole word: m is 0 then");
        stems("sses ss  ies i  eed eed  ing ing  ational ation  tional tional");
        stems("enci enci  anci anci  izer izer  abli abli  alli alli  entli entli  eli eli  ousli ousli");
        stems("ization izat  ation ation  ator ator  alism alism  iveness iv  fulness ful  ousness ous");
        stems("aliti aliti  iviti iviti  biliti biliti  icate icat  ative ativ  alize aliz  iciti iciti");
        stems("ical ical  ful ful  ness ness  ance anc  ence enc  able abl  ible ibl  ant ant");
        stems("ement ement  ment ment  ent ent  ion ion  ism ism  ate at  iti iti  ous ou  ive iv  ize iz");
    }

    private static void step1a() {
        Checks.about("1a: sses -> ss; ies -> i; ss -> ss; s -> nothing");
        stems("bosses boss  ssses sss  bies bi  sies si  bos bo  buses buse  ees ee  iess iess");
        stems("boss boss  sss sss  asss asss  ses se  bas ba  ssess ssess  abcs abc  yies yi");
    }

    private static void step1b() {
        Checks.about("1b: eed (m above 0) -> ee");
        stems("beed beed  treed treed  eeed eeed  abeed abe  agreed agre  yeed yeed  ababeed ababe");
        Checks.about("1b: ed, ing (there's a vowel in the stem) -> nothing");
        stems("bed bed  bced bced  shred shred  aed a  baed ba  abed ab  bcing bcing  aing a  oing o  eing e");
        stems("string string  bring bring  abing ab  beinging being");
        stems("inged ing  eding ed");
    }

    private static void after1b() {
        Checks.about("after these two: if it ends with at, bl, iz: an e more");
        stems("operating oper  operated oper  adjustabling adjust  adjustabled adjust  bowdlerizing bowdler");
        stems("bating bate  sizing size  tabling tabl  ating at  abled abl  izing iz");
        stems("operading operad  adjustaking adjustak  bowdlerixing bowdlerix  operaaking operaak");
        Checks.about("else if it's DOUBLE, but not with l, s, z: one letter less");
        stems("bulling bull  bussing buss  buzzing buzz  bulled bull  bussed buss  buzzed buzz");
        stems("hopping hop  adding ad  controlling control  bubbled bubbl  atting at");
        Checks.about("else if m is 1 and it's CVC: an e more");
        stems("filing file  failing fail  seeing see  being be  sensitiving sensitiv  bowdlering bowdler");
        stems("sensitised sensitis  batting bat  buzing buze");
        Checks.about("after these two: and not after eed, nor without an ending");
        stems("abateed abate  bat bat  buzz buzz  hop hop  abobl abobl  sensat sensat");
    }

    private static void step1c() {
        Checks.about("1c: y (there's a vowel in the stem) -> i");
        stems("bay bai  bby bby  aby abi  ayy ayi  byy byi  yby yby  yay yai  dry dry  say sai  yyby yybi");
    }

    /** Rows: an ending, and what is left of it behind stems whose m is 0, 1 and 2; - is nothing. */
    private static void behindStems(String rows) {
        String[] stems = {"tr", "ab", "abab"};
        String[] words = rows.trim().split("\\s+");
        for (int k = 0; k < words.length; k += 4) {
            for (int m = 0; m < 3; m++) {
                stems(stems[m] + words[k] + " " + stems[m] + words[k + 1 + m].replace("-", ""));
            }
        }
    }

    private static void step2() {
        Checks.about("2 (m above 0): ational -> ate; tional -> tion; ..");
        behindStems("""
            ational ation at -   tional tional tion t   enci enci enc -   anci anci anc -
            izer izer iz -   abli abli abl -   alli alli al -   entli entli ent -   eli eli - -
            ousli ousli ous -   ization izat iz -   ation ation at -   ator ator at -
            alism alism al -   iveness ive iv -   fulness ful - -   ousness ous ous -
            aliti aliti al -   iviti iviti iv -   biliti biliti bl bl   abiliti abil abl -
            ativeness ativ - -   alization aliz al -   icator icat ic -
            """);
        stems("ababonci ababonci  ababobli ababobli  ababolli ababolli  ababontli ababontli  ababoli ababoli");
        stems("ababosli ababosli  ababotor ababotor  ababozer ababoz  ababoliti ababol  abaoness abao");
    }

    private static void step3() {
        Checks.about("3 (m above 0): icate -> ic; ative -> nothing; ..");
        behindStems("""
            icate icat ic -   ative ativ - -   alize aliz al -   iciti iciti ic -
            ical ical ic -   ful ful - -   ness ness - -
            """);
        stems("abbcate abbcat  abbtive abbtiv  abblize abbliz  abbciti abbciti  abbcal abbcal");
        stems("abfol abfol  abnuss abnuss");
    }

    private static void step4() {
        Checks.about("4 (m above 1), all -> nothing");
        String[] list = "al ance ence er ic able ible ant ement ment ent ou ism ate iti ive ize".split(" ");
        for (String ending : list) {
            String left = ending.endsWith("e") ? ending.substring(0, ending.length() - 1) : ending;
            Checks.dueTokens("ababb" + ending, "0:ababb");
            Checks.dueTokens("ababab" + ending, "0:ababab");
            Checks.dueTokens("babb" + ending, "0:babb" + left);
        }
        stems("ababbousli ababb  babbousli babbous  ababbousness ababb  babbousness babbous");
        stems("ababbol ababbol  ababbonce ababbonc  ababbor ababbor  ababboc ababboc  ababboble ababbobl");
        stems("ababbont ababbont  ababboment ababbo  ababboent ababbo  ababbiu ababbiu  ababbosm ababbosm");
        stems("ababbote ababbot  ababboti ababboti  ababbove ababbov  ababboze ababboz  ababbtoon ababbtoon");
        Checks.about("ion just if the stem ends with s or t");
        for (char c = 'a'; c <= 'z'; c++) {
            boolean goes = c == 's' || c == 't';
            Checks.dueTokens("ababb" + c + "ion", "0:ababb" + c + (goes ? "" : "ion"));
        }
        stems("abtion abtion  absion absion  nation nation  decision decis  adoption adopt");
    }

    private static void step5a() {
        Checks.about("5a: e -> nothing, if m of the stem is above 1");
        stems("ababe abab  opate opat  private privat  abababe ababab  arobe arob");
        Checks.about("5a: or is 1 and it isn't CVC");
        stems("hope hope  rate rate  bowe bow  boxe box  baye bay  ope op  cease ceas  bulke bulk  ooze ooz");
        Checks.about("5a: and not, if m of the stem is 0");
        stems("bee bee  tree tree  bye bye  eee eee  bbe bbe  yye yye");
        Checks.about("5a: e -> nothing: one e");
        stems("abee abe  ababee ababe");
    }

    private static void step5b() {
        Checks.about("5b: if it ends with ll and m of the whole word is above 1: one l less");
        stems("all all  ball ball  roll roll  bbll bbll  aball abal  ababll ababl");
        stems("controll control  enroll enrol  aballl aball  ababelle ababel  abatt abatt  ababl ababl");
        stems("bagatelle bagatel  recall recal  parallel parallel");
    }
}
