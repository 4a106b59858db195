set_option maxRecDepth 100000 in
set_option maxHeartbeats 8000000 in
theorem mj_all0 : mj_ms.all mj_cr = true := by
  simp only [mj_ms, List.all_cons, List.all_nil, Bool.and_true, Bool.and_self, mj_q0, mj_q1, mj_q2, mj_q3, mj_q4, mj_q5, mj_q6, mj_q7, mj_q8, mj_q9, mj_q10, mj_q11, mj_q12, mj_q13, mj_q14, mj_q15, mj_q16, mj_q17, mj_q18, mj_q19, mj_q20, mj_q21, mj_q22, mj_q23, mj_q24, mj_q25, mj_q26, mj_q27, mj_q28, mj_q29, mj_q30, mj_q31, mj_q32, mj_q33, mj_q34, mj_q35, mj_q36, mj_q37, mj_q38, mj_q39, mj_q40, mj_q41, mj_q42, mj_q43, mj_q44, mj_q45, mj_q46, mj_q47, mj_q48, mj_q49, mj_q50, mj_q51, mj_q52, mj_q53, mj_q54, mj_q55, mj_q56, mj_q57, mj_q58, mj_q59, mj_q60, mj_q61, mj_q62, mj_q63, mj_q64, mj_q65, mj_q66, mj_q67, mj_q68, mj_q69, mj_q70, mj_q71, mj_q72, mj_q73, mj_q74, mj_q75, mj_q76, mj_q77, mj_q78, mj_q79, mj_q80, mj_q81, mj_q82, mj_q83, mj_q84, mj_q85, mj_q86, mj_q87, mj_q88, mj_q89, mj_q90, mj_q91, mj_q92, mj_q93, mj_q94, mj_q95, mj_q96, mj_q97, mj_q98, mj_q99, mj_q100, mj_q101, mj_q102, mj_q103, mj_q104, mj_q105, mj_q106, mj_q107, mj_q108, mj_q109, mj_q110, mj_q111, mj_q112, mj_q113, mj_q114, mj_q115, mj_q116, mj_q117, mj_q118, mj_q119, mj_q120, mj_q121, mj_q122, mj_q123, mj_q124, mj_q125, mj_q126, mj_q127, mj_q128, mj_q129, mj_q130, mj_q131, mj_q132, mj_q133, mj_q134, mj_q135, mj_q136, mj_q137, mj_q138, mj_q139, mj_q140, mj_q141, mj_q142, mj_q143, mj_q144, mj_q145, mj_q146, mj_q147, mj_q148, mj_q149, mj_q150, mj_q151, mj_q152, mj_q153, mj_q154, mj_q155, mj_q156, mj_q157, mj_q158, mj_q159, mj_q160, mj_q161, mj_q162, mj_q163, mj_q164, mj_q165, mj_q166, mj_q167, mj_q168, mj_q169, mj_q170, mj_q171, mj_q172, mj_q173, mj_q174, mj_q175, mj_q176, mj_q177, mj_q178, mj_q179, mj_q180, mj_q181, mj_q182, mj_q183, mj_q184, mj_q185, mj_q186, mj_q187, mj_q188, mj_q189, mj_q190, mj_q191, mj_q192, mj_q193, mj_q194, mj_q195, mj_q196, mj_q197, mj_q198, mj_q199, mj_q200, mj_q201, mj_q202, mj_q203, mj_q204, mj_q205, mj_q206, mj_q207, mj_q208, mj_q209, mj_q210, mj_q211, mj_q212, mj_q213, mj_q214, mj_q215, mj_q216, mj_q217, mj_q218, mj_q219, mj_q220, mj_q221, mj_q222, mj_q223, mj_q224, mj_q225, mj_q226, mj_q227, mj_q228, mj_q229, mj_q230, mj_q231, mj_q232, mj_q233, mj_q234, mj_q235, mj_q236, mj_q237, mj_q238, mj_q239, mj_q240, mj_q241, mj_q242, mj_q243, mj_q244, mj_q245, mj_q246, mj_q247, mj_q248, mj_q249, mj_q250, mj_q251, mj_q252, mj_q253, mj_q254, mj_q255, mj_q256, mj_q257, mj_q258, mj_q259, mj_q260, mj_q261, mj_q262, mj_q263, mj_q264, mj_q265, mj_q266, mj_q267, mj_q268, mj_q269, mj_q270, mj_q271, mj_q272, mj_q273, mj_q274, mj_q275, mj_q276, mj_q277, mj_q278, mj_q279, mj_q280, mj_q281, mj_q282, mj_q283, mj_q284, mj_q285, mj_q286, mj_q287, mj_q288, mj_q289, mj_q290, mj_q291, mj_q292, mj_q293, mj_q294, mj_q295, mj_q296, mj_q297, mj_q298, mj_q299, mj_q300, mj_q301, mj_q302, mj_q303, mj_q304, mj_q305, mj_q306, mj_q307, mj_q308, mj_q309, mj_q310, mj_q311, mj_q312, mj_q313, mj_q314, mj_q315, mj_q316, mj_q317, mj_q318, mj_q319, mj_q320, mj_q321, mj_q322, mj_q323, mj_q324, mj_q325, mj_q326, mj_q327, mj_q328, mj_q329, mj_q330, mj_q331, mj_q332, mj_q333, mj_q334, mj_q335, mj_q336, mj_q337, mj_q338, mj_q339, mj_q340, mj_q341, mj_q342, mj_q343, mj_q344, mj_q345, mj_q346, mj_q347, mj_q348, mj_q349, mj_q350, mj_q351, mj_q352, mj_q353, mj_q354, mj_q355, mj_q356, mj_q357, mj_q358, mj_q359, mj_q360, mj_q361, mj_q362, mj_q363, mj_q364, mj_q365, mj_q366, mj_q367, mj_q368, mj_q369, mj_q370, mj_q371, mj_q372, mj_q373, mj_q374, mj_q375, mj_q376, mj_q377, mj_q378, mj_q379, mj_q380]
theorem mj_all (j : Nat) (z : mj_Me) (h : mj_ms[j]? = some z) : mj_cr z = true := List.all_eq_true.mp mj_all0 _ (List.mem_of_getElem? h)
def mj_cwz : List mj_Me → Nat → Bool
  | [], _ => true
  | z :: l, j => (decide (j = 1) || (decide (380 ≤ j) || mj_cw z)) && mj_cwz l (j + 1)
set_option maxRecDepth 100000 in
set_option maxHeartbeats 8000000 in
theorem mj_cwz_ok : mj_cwz mj_ms 0 = true := by decide +kernel
theorem mj_cwz_at : ∀ (l : List mj_Me) (p : Nat), mj_cwz l p = true → ∀ (k : Nat) (z : mj_Me), l[k]? = some z → p + k ≠ 1 → p + k < 380 → mj_cw z = true := by
  intro l
  induction l with
  | nil => intro p _ k z h; simp at h
  | cons a l ih =>
    intro p h k z hk h1 h2
    simp only [mj_cwz, Bool.and_eq_true, Bool.or_eq_true, decide_eq_true_eq] at h
    cases k with
    | zero =>
      have : a = z := by simpa using hk
      subst this
      rcases h.1 with h3 | h3 | h3
      · omega
      · omega
      · exact h3
    | succ k => exact ih (p + 1) h.2 k z (by simpa using hk) (by omega) (by omega)
theorem mj_cwall (j : Nat) (z : mj_Me) (h : mj_ms[j]? = some z) (h1 : j ≠ 1) (h2 : j < 380) : mj_cw z = true := mj_cwz_at mj_ms 0 mj_cwz_ok j z h (by omega) (by omega)
