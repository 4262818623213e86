/** The grammar of a setup text and its errors, each at the first token that has one. */
final class SetupTextTests {
  private static final String HEAD = "recipe 1 2 4 9;";
  private static final int AT = HEAD.length();

  private SetupTextTests() {}

  private static void bad(int code, String marked) {
    Kit.badSetup(code, marked);
  }

  static void promise4TheTextMayEndTooEarly() {
    String text = "recipe 1 2 4 9;pan pot 2;step cut 3 1 in pot hot alone;step b 1 1 after cut;";
    for (int length = 0; length < text.length(); length++) {
      if (length != text.indexOf(';', 30) + 1) {
        RecipeScheduler x = Kit.fresh();
        String part = text.substring(0, length);
        Kit.feed(x, part);
        Kit.throwsJust(Kit.ARGUMENT, "load() of " + part, x::load);
      }
    }
    Kit.badSetup("", 1, 0);
    Kit.badSetup("  \n", 1, 3);
    Kit.badSetup("recipe", 1, 6);
    Kit.badSetup("recipe 1 2 4 9", 1, 14);
    Kit.badSetup(HEAD + "  ", 1, AT + 2);
    Kit.badSetup(HEAD + "pan pot 2;", 1, AT + 10);
    Kit.badSetup(HEAD + "step a 1 1", 1, AT + 10);
    Kit.badSetup(HEAD + "step a 1 1 in", 1, AT + 13);
    Kit.badSetup(HEAD + "step a 1 1 after \n", 1, AT + 18);
  }

  static void promise4SpacesAndLineFeedsOnlySeparate() {
    Kit.goodSetup("\n recipe\n1 2  4 9 ; step a 1 1 ; \n", 1);
    Kit.goodSetup("recipe1 2 4 9;step a1 1;", 1);
    Kit.goodSetup("recipe 1 2 4 9;pan a1;step a 1 1in a hot;step b 007 001;", 2);
    bad(1, "recipe^\t1 2 4 9;step a 1 1;");
    bad(1, "recipe 1 2 4 9;^\rstep a 1 1;");
    bad(1, "recipe 1 2 4 9^,step a 1 1;");
    bad(1, "^Recipe 1 2 4 9;step a 1 1;");
    bad(1, "recipe ^-1 2 4 9;step a 1 1;");
    bad(1, "recipe 1 2 4 9;step a^\u00e4 1 1;");
    bad(1, "recipe 1 2 4 9;step a 1 1;^\0");
    bad(1, "recipe 1 2 4 9;step a 1 1;^;");
  }

  static void promise4InvalidTokensComeFirst() {
    bad(1, "^recipesss 1 2 4 9;step a 1 1;");
    bad(1, "recipe ^0001 2 4 9;step a 1 1;");
    bad(1, "recipe 1 2 4 9;step ^abcdefghi 1 1;");
    bad(3, "recipe 1 2 4 9;step ^abcdefgh 1 1;");
    bad(3, "recipe 1 2 4 9;step ^abcdefg 1 1;");
    Kit.goodSetup("recipe 1 2 4 9;step abcdef 1 1;", 1);
    bad(1, "recipe 1 2 4 9;step a 1 1 in ^abcdefghi;");
    bad(3, "recipe 1 2 4 9;step a 1 1 in ^abcdefgh;");
    bad(1, "recipe 1 2 4 9;step a 1 1;step b 1 1 after ^abcdefghi;");
    bad(3, "recipe 1 2 4 9;step a 1 1;step b 1 1 after ^abcdefgh;");
    bad(1, "recipe 1 2 4 9;step a 1 1;step b 1 1 after a ^abcdefghi;");
    bad(1, "recipe 1 2 4 9;step a ^1000 1;");
  }

  static void promise4TheHead() {
    Kit.goodSetup("recipe 4 30 99 99;step a 1 1;", 1);
    Kit.goodSetup("recipe 1 0 0 0;step a 1 1;", 1);
    bad(1, "^step 1 2 4 9;step a 1 1;");
    bad(1, "^recip 1 2 4 9;step a 1 1;");
    bad(1, "^1 2 4 9;step a 1 1;");
    bad(2, "recipe ^0 2 4 9;step a 1 1;");
    bad(2, "recipe ^5 2 4 9;step a 1 1;");
    bad(2, "recipe 1 ^31 4 9;step a 1 1;");
    bad(2, "recipe 1 2 ^100 9;step a 1 1;");
    bad(2, "recipe 1 2 4 ^100;step a 1 1;");
    bad(2, "recipe 1 2 4 ^3;step a 1 1;");
    bad(1, "recipe 1 2 4^;step a 1 1;");
    bad(1, "recipe ^one 2 4 9;step a 1 1;");
    bad(1, "recipe 1 2 4 9 ^9;step a 1 1;");
    bad(1, "recipe 1 2 4 9 ^step a 1 1;");
  }

  static void promise4WordsAreComparedAsAWhole() {
    bad(1, "^xecipe 1 2 4 9;step a 1 1;");
    bad(1, "^recipx 1 2 4 9;step a 1 1;");
    bad(1, HEAD + "^xan a 1;step a 1 1;");
    bad(1, HEAD + "^pans a 1;step a 1 1;");
    bad(1, HEAD + "^xtep a 1 1;");
    bad(1, HEAD + "step a 1 1 ^xot;");
    bad(1, HEAD + "step a 1 1 ^xlone;");
    bad(1, HEAD + "step a 1 1;step b 1 1 ^xfter a;");
    bad(1, HEAD + "pan p 1;step a 1 1 ^xn p;");
    bad(3, HEAD + "pan pa 1;step a 1 1 in ^xa;");
    bad(3, HEAD + "pan pa 1;step a 1 1 in ^p;");
    bad(3, HEAD + "pan pa 1;step a 1 1 in ^pax;");
  }

  static void promise4PanTypes() {
    Kit.goodSetup(HEAD + "pan a 1;pan b 5;pan c 1;pan d 1;step a 1 1;", 1);
    bad(5, HEAD + "pan a 1;pan b 5;pan c 1;pan d 1;^pan e 1;step a 1 1;");
    bad(1, HEAD + "pan a 1;pan b 5;pan c 1;pan d 1;^pam e 1;step a 1 1;");
    bad(3, HEAD + "pan a 1;pan ^a 1;step a 1 1;");
    bad(3, HEAD + "pan ^abcdefg 1;step a 1 1;");
    bad(1, HEAD + "pan ^1 1;step a 1 1;");
    bad(2, HEAD + "pan a ^0;step a 1 1;");
    bad(2, HEAD + "pan a ^6;step a 1 1;");
    bad(1, HEAD + "pan a ^b;step a 1 1;");
    bad(1, HEAD + "pan a 1 ^1;step a 1 1;");
    bad(1, HEAD + "step a 1 1;^pan a 1;step b 1 1;");
    bad(1, HEAD + "pan a 1;^;step a 1 1;");
  }

  static void promise4Steps() {
    StringBuilder text = new StringBuilder(HEAD);
    for (char c = 'a'; c < 'a' + 14; c++) {
      text.append("step ").append(c).append(" 1 1;");
    }
    Kit.goodSetup(text.toString(), 14);
    bad(5, text + "^step z 1 1;");
    bad(5, text + "^step");
    bad(1, text + "^stop z 1 1;");
    bad(1, text + "^pan z 1;");
    bad(1, text + "^;");
    bad(3, HEAD + "step a 1 1;step ^a 1 1;");
    bad(1, HEAD + "step ^; 1 1;");
    bad(2, HEAD + "step a ^0 1;");
    bad(2, HEAD + "step a ^61 1;");
    bad(2, HEAD + "step a 60 ^10;");
    bad(1, HEAD + "step a 1^;");
    bad(1, HEAD + "step a ^b 1;");
    Kit.goodSetup(HEAD + "step a 60 9;", 1);
    Kit.goodSetup(HEAD + "step a 1 0;", 1);
  }

  static void promise4TheMarksOfAStepComeInOrder() {
    Kit.goodSetup(HEAD + "pan p 1;step a 1 1;step b 1 1 in p hot alone after a;", 2);
    bad(1, HEAD + "pan p 1;step a 1 1 hot ^in p;");
    bad(1, HEAD + "step a 1 1 alone ^hot;");
    bad(1, HEAD + "step a 1 1 hot ^hot;");
    bad(1, HEAD + "pan p 1;step a 1 1 in p ^in p;");
    bad(1, HEAD + "step a 1 1 ^cold;");
    bad(3, HEAD + "step a 1 1;step b 1 1 after a ^hot;");
    bad(3, HEAD + "step a 1 1;step b 1 1 after a ^after a;");
    bad(3, HEAD + "pan p 1;step a 1 1 in ^q;");
    bad(3, HEAD + "pan p 1;step a 1 1 in ^a;");
    bad(1, HEAD + "pan p 1;step a 1 1 in ^1;");
    bad(1, HEAD + "pan p 1;step a 1 1 in^;");
  }

  static void promise4Predecessors() {
    String steps = HEAD + "step a 1 1;step b 1 1;step c 1 1;step d 1 1;step e 1 1;";
    Kit.goodSetup(steps + "step f 1 1 after d c b a;", 6);
    bad(5, steps + "step f 1 1 after d c b a ^e;");
    bad(4, steps + "step f 1 1 after d c b a ^d;");
    bad(3, steps + "step f 1 1 after d c b a ^f;");
    bad(3, steps + "step f 1 1 after d c b a ^abcdefg;");
    bad(1, steps + "step f 1 1 after d c b a ^abcdefghi;");
    bad(1, steps + "step f 1 1 after d c b a ^1;");
    bad(4, steps + "step f 1 1 after a b ^a c;");
    bad(3, steps + "step f 1 1 after ^f;");
    bad(3, steps + "step f 1 1 after ^g;step g 1 1;");
    bad(1, steps + "step f 1 1 after^;");
    bad(1, steps + "step f 1 1 after ^1;");
    Kit.goodSetup(steps + "step f 1 1 after a;step g 1 1 after a f;", 7);
  }

  static void promise4WordsOfTheGrammarAreNames() {
    RecipeScheduler x = Kit.loaded("recipe 1 2 4 9;pan pan 1;pan in 2;step step 1 1 in in;"
        + "step hot 1 1 in pan hot;step after 1 1 alone after hot;"
        + "step alone 1 1 after step hot after;step recipe 1 1 after alone;");
    Kit.due("stepCount()", x.stepCount(), 5);
    Kit.due("panType(0)", x.panType(0), 1);
    Kit.due("panType(1)", x.panType(1), 0);
    Kit.due("isHot(0)", x.isHot(0), false);
    Kit.due("isHot(1)", x.isHot(1), true);
    Kit.due("isUnattended(2)", x.isUnattended(2), true);
    Kit.due("predecessor(2, 0)", x.predecessor(2, 0), 1);
    Kit.due("isUnattended(3)", x.isUnattended(3), false);
    Kit.due("predecessor(3, 2)", x.predecessor(3, 2), 2);
    Kit.due("predecessor(4, 0)", x.predecessor(4, 0), 3);
  }

  static void promise4APanTypeAndAStepMayShareAName() {
    Kit.goodSetup(HEAD + "pan a 1;step a 1 1 in a;step b 1 1 in a after a;", 2);
  }

  static void promise4TheFirstTokenWithAnErrorCounts() {
    bad(2, "recipe ^9 99 100 0;pan a 9;");
    bad(3, HEAD + "pan a 1;pan ^a 9;step ; 1 1");
  }

  static void promise4ATextOf700Bytes() {
    StringBuilder text = new StringBuilder(HEAD);
    for (int i = 0; i < 14; i++) {
      text.append("step ").append((char) ('a' + i)).append(" 1 1;");
    }
    while (text.length() < 699) {
      text.append('\n');
    }
    Kit.goodSetup(text + " ", 14);
    bad(1, text + "^a");
    bad(1, text + "^?");
  }
}
