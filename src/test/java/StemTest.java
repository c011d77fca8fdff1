/** cut: STEMMING, by the examples of its inventor and by the edges of each step. */
final class StemTest {
    private static final String EXAMPLES = """
        caresses caress  ponies poni  ties ti  caress caress  cats cat
        feed feed  agreed agre  plastered plaster  bled bled  motoring motor  sing sing
        conflated conflat  troubled troubl  sized size  hopping hop  tanned tan  falling fall
        hissing hiss  fizzed fizz  failing fail  filing file  happy happi  sky sky
        relational relat  conditional condit  rational ration  valenci valenc  hesitanci hesit
        digitizer digit  conformabli conform  radicalli radic  differentli differ  vileli vile
        analogousli analog  vietnamization vietnam  predication predic  operator oper
        feudalism feudal  decisiveness decis  hopefulness hope  callousness callous
        formaliti formal  sensitiviti sensit  sensibiliti sensibl
        triplicate triplic  formative form  formalize formal  electriciti electr
        electrical electr  hopeful hope  goodness good
        revival reviv  allowance allow  inference infer  airliner airlin  gyroscopic gyroscop
        adjustable adjust  defensible defens  irritant irrit  replacement replac
        adjustment adjust  dependent depend  adoption adopt  homologou homolog
        communism commun  activate activ  angulariti angular  homologous homolog
        effective effect  bowdlerize bowdler
        probate probat  rate rate  cease ceas  controll control  roll roll
        generalizations gener  oscillators oscil
        """;


    public static void main(String[] args) {
        stems(EXAMPLES);
        endingIsTheWord();
        longestAlone();
        mending();
        vowelY();
        lastSteps();
        notStemmed();
        Checks.finish();
    }

    private static void stems(String pairs) {
        String[] words = pairs.trim().split("\\s+");
        for (int k = 0; k < words.length; k += 2) {
            Checks.dueTokens(words[k], "0:" + words[k + 1]);
        }
    }

    private static void endingIsTheWord() {
        stems("ies i  sses ss  sss sss  eed eed  ing ing  bed bed  ational ation  tional tional");
        stems("izer izer  ness ness  ful ful  ical ical  ement ement  ion ion  ize iz  eli eli  ator ator");
    }

    private static void longestAlone() {
        stems("feeds feed  freed freed  nationals nation  ration ration  element element  cement cement");
        stems("agreement agreement  comment comment  basement basement");
    }

    private static void mending() {
        stems("bating bate  tabling tabl  wizing wize  sizing size  hopped hop  hoping hope");
        stems("filling fill  missed miss  buzzing buzz  adding ad  seeing see  boxed box  snowing snow");
        stems("playing plai  controlling control  visited visit  eased eas  aping ap  oozing ooz");
    }

    private static void vowelY() {
        stems("say sai  dry dry  yyy yyi  toy toi  syzygy syzygi  yed yed  bying by  byying by");
        stems("yellow yellow  crying cry  dyed dy  dying dy  eyed ei");
    }

    private static void lastSteps() {
        stems("ate at  tree tree  one on  use us  able abl  hope hope  above abov  plate plate");
        stems("nation nation  opinion opinion  decision decis  region region  religion religion");
        stems("all all  ball ball  recall recal  enroll enrol  parallel parallel");
    }

    private static void notStemmed() {
        Checks.dueTokens("us go as1 caf\u00e9s cats_ cat's x.ings \u03c3s",
            "0:us 1:go 2:as1 3:caf\u00e9s 4:cats_ 5:cat 6:x.ings 7:\u03c3s");
        Checks.dueTokens("CATS Running IES'S its", "0:cat 1:run 2:i 3:it");
        Checks.dueTokens("as's us's ing's", "1:us 2:ing");
    }
}
