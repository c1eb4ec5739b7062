import java.util.ArrayList;
import java.util.Collections;
import java.util.HashMap;
import java.util.List;
import java.util.Map;

/**
 * A call that is refused changes nothing, and neither does a question: an object that refused a
 * call and one that never heard of it answer all later calls alike. As an object is good for 512
 * calls, what is asked is asked in portions, each of a pair of new objects.
 */
final class Refusal {
  private static final int CALLS = 512;

  private final Check check;
  private final Map<Story, List<String>> dues = new HashMap<>();

  Refusal(Check check) {
    this.check = check;
  }

  void refuses(Story story, String call, String due) {
    String got = Calls.answer(story.told(), call);
    check.is(call, got, due);
    List<String> questions = questions(story);
    List<String> dueAnswers = dues.computeIfAbsent(story, key -> answers(key, questions, null));
    List<String> answers = answers(story, questions, call);
    for (int i = 0; i < questions.size(); i++) {
      if (!answers.get(i).equals(dueAnswers.get(i))) {
        check.is(questions.get(i) + " behind " + call, answers.get(i), dueAnswers.get(i));
        return;
      }
    }
  }

  /** Each question has one answer, whatever was asked before, forth and back. */
  void answersAlike(Story story) {
    List<String> questions = asking(story);
    List<String> answers = answers(story, questions, null);
    Collections.reverse(questions);
    List<String> answersBack = answers(story, questions, null);
    Collections.reverse(questions);
    Collections.reverse(answersBack);
    for (int i = 0; i < questions.size(); i++) {
      String due = Calls.answer(story.told(), questions.get(i));
      check.is(questions.get(i) + " behind others", answers.get(i), due);
      check.is(questions.get(i) + " behind others", answersBack.get(i), due);
    }
  }

  private static List<String> answers(Story story, List<String> questions, String refused) {
    List<String> answers = new ArrayList<>();
    int portion = CALLS - story.size() - 1;
    Valleyfree x = null;
    for (int i = 0; i < questions.size(); i++) {
      if (i % portion == 0) {
        x = story.told();
        if (refused != null) {
          Calls.answer(x, refused);
        }
      }
      answers.add(Calls.answer(x, questions.get(i)));
    }
    return answers;
  }

  /** First what changes nothing, then what tells how it was when it is set anew. */
  private static List<String> questions(Story story) {
    List<String> questions = asking(story);
    addSetting(questions, story);
    return questions;
  }

  private static List<String> asking(Story story) {
    int houses = story.count("addHouse");
    int links = story.count("addLink");
    List<String> asked = new ArrayList<>(List.of("seen", "against", "areNameable", "fewest",
        "wrong", "checksum", "meanLength", "isSound", "contract " + links,
        "paidWays " + houses));
    for (int number = 0; number < 24; number++) {
      askOfNumber(asked, Story.number(number), houses);
    }
    for (int link = 0; link < links; link++) {
      for (String question : new String[] {"contract #", "harm # 0 -1", "votes # true",
          "votes # false", "name #", "exact #", "use #", "bill #", "quarrels # 20"}) {
        asked.add(question.replace("#", "" + link));
      }
    }
    for (int way = 0; way < story.count("look"); way++) {
      asked.add("seenAt " + way + " 0");
      asked.add("seenAt " + way + " 1");
    }
    for (int house = 0; house < houses; house++) {
      for (String question : new String[] {"paidWays #", "degree #", "cone #", "share # 0 -1"}) {
        asked.add(question.replace("#", "" + house));
      }
      for (int other = 0; other < houses; other++) {
        asked.add("meet " + house + " " + other);
      }
    }
    return asked;
  }

  private static void askOfNumber(List<String> asked, String number, int houses) {
    for (String question : new String[] {"areSettled", "rounds", "abroad", "weakest"}) {
      asked.add(question + number);
    }
    for (int house = 0; house < houses; house++) {
      asked.add("wayLength " + house + number);
      asked.add("wayAt " + house + number + " 1");
      asked.add("arrives " + house + number);
    }
  }

  private static void addSetting(List<String> asked, Story story) {
    int houses = story.count("addHouse");
    for (int house = 0; house < houses; house++) {
      asked.add("leak " + house + " false");
      asked.add("filter " + house + " o false");
      asked.add("filter " + house + " l false");
      for (int other = 0; other < houses; other++) {
        asked.add("like " + house + " " + other + " 0");
      }
      for (int number = 0; number < 24; number++) {
        asked.add("unsay " + house + Story.number(number));
      }
      for (int hall = 0; hall < story.count("addHall"); hall++) {
        asked.add("join " + hall + " " + house + " false");
      }
    }
    for (int block = 0; block < 8; block++) {
      asked.add("sign " + block + " 0 false");
    }
    for (int link = 0; link < story.count("addLink"); link++) {
      asked.add("cut " + link + " false");
      asked.add("terms " + link + " 1 1");
      asked.add("sample " + link + " 1 0");
      asked.add("clearSamples " + link);
    }
    asked.addAll(List.of("addHouse 0", "addWindow 0", "addHall", "forget", "addLink 0 1 c"));
  }
}
