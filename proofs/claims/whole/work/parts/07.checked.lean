set_option maxRecDepth 100000 in
set_option maxHeartbeats 4000000 in
theorem mj_g0 : [mj_m0, mj_m1, mj_m2, mj_m3, mj_m4, mj_m5, mj_m6, mj_m7, mj_m8, mj_m9, mj_m10, mj_m11, mj_m12, mj_m13, mj_m14, mj_m15, mj_m16, mj_m17, mj_m18, mj_m19, mj_m20, mj_m21, mj_m22, mj_m23].all mj_cr = true := by decide +kernel
set_option maxRecDepth 100000 in
set_option maxHeartbeats 4000000 in
theorem mj_g1 : [mj_m24, mj_m25, mj_m26, mj_m27, mj_m28, mj_m29, mj_m30, mj_m31, mj_m32, mj_m33, mj_m34, mj_m35, mj_m36, mj_m37, mj_m38, mj_m39, mj_m40, mj_m41, mj_m42, mj_m43, mj_m44, mj_m45, mj_m46, mj_m47].all mj_cr = true := by decide +kernel
set_option maxRecDepth 100000 in
set_option maxHeartbeats 4000000 in
theorem mj_g2 : [mj_m48, mj_m49, mj_m50, mj_m51, mj_m52, mj_m53, mj_m54, mj_m55, mj_m56, mj_m57, mj_m58, mj_m59, mj_m60, mj_m61, mj_m62, mj_m63, mj_m64, mj_m65, mj_m66, mj_m67, mj_m68, mj_m69, mj_m70, mj_m71].all mj_cr = true := by decide +kernel
set_option maxRecDepth 100000 in
set_option maxHeartbeats 4000000 in
theorem mj_g3 : [mj_m72, mj_m73, mj_m74, mj_m75, mj_m76, mj_m77, mj_m78, mj_m79, mj_m80, mj_m81, mj_m82, mj_m83, mj_m84, mj_m85, mj_m86, mj_m87, mj_m88, mj_m89, mj_m90, mj_m91, mj_m92, mj_m93, mj_m94, mj_m95].all mj_cr = true := by decide +kernel
set_option maxRecDepth 100000 in
set_option maxHeartbeats 4000000 in
theorem mj_g4 : [mj_m96, mj_m97, mj_m98, mj_m99, mj_m100, mj_m101, mj_m102, mj_m103, mj_m104, mj_m105, mj_m106, mj_m107, mj_m108, mj_m109, mj_m110, mj_m111, mj_m112, mj_m113, mj_m114, mj_m115, mj_m116, mj_m117, mj_m118, mj_m119].all mj_cr = true := by decide +kernel
set_option maxRecDepth 100000 in
set_option maxHeartbeats 4000000 in
theorem mj_g5 : [mj_m120, mj_m121, mj_m122, mj_m123, mj_m124, mj_m125, mj_m126, mj_m127, mj_m128, mj_m129, mj_m130, mj_m131, mj_m132, mj_m133, mj_m134, mj_m135, mj_m136, mj_m137, mj_m138, mj_m139, mj_m140, mj_m141, mj_m142, mj_m143].all mj_cr = true := by decide +kernel
set_option maxRecDepth 100000 in
set_option maxHeartbeats 4000000 in
theorem mj_g6 : [mj_m144, mj_m145, mj_m146, mj_m147, mj_m148, mj_m149, mj_m150, mj_m151, mj_m152, mj_m153, mj_m154, mj_m155, mj_m156, mj_m157, mj_m158, mj_m159, mj_m160, mj_m161, mj_m162, mj_m163, mj_m164, mj_m165, mj_m166, mj_m167].all mj_cr = true := by decide +kernel
set_option maxRecDepth 100000 in
set_option maxHeartbeats 4000000 in
theorem mj_g7 : [mj_m168, mj_m169, mj_m170, mj_m171, mj_m172, mj_m173, mj_m174, mj_m175, mj_m176, mj_m177, mj_m178, mj_m179, mj_m180, mj_m181, mj_m182, mj_m183, mj_m184, mj_m185, mj_m186, mj_m187, mj_m188, mj_m189, mj_m190, mj_m191].all mj_cr = true := by decide +kernel
set_option maxRecDepth 100000 in
set_option maxHeartbeats 4000000 in
theorem mj_g8 : [mj_m192, mj_m193, mj_m194, mj_m195, mj_m196, mj_m197, mj_m198, mj_m199, mj_m200, mj_m201, mj_m202, mj_m203, mj_m204, mj_m205, mj_m206, mj_m207, mj_m208, mj_m209, mj_m210, mj_m211, mj_m212, mj_m213, mj_m214, mj_m215].all mj_cr = true := by decide +kernel
set_option maxRecDepth 100000 in
set_option maxHeartbeats 4000000 in
theorem mj_g9 : [mj_m216, mj_m217, mj_m218, mj_m219, mj_m220, mj_m221, mj_m222, mj_m223, mj_m224, mj_m225, mj_m226, mj_m227, mj_m228, mj_m229, mj_m230, mj_m231, mj_m232, mj_m233, mj_m234, mj_m235, mj_m236, mj_m237, mj_m238, mj_m239].all mj_cr = true := by decide +kernel
set_option maxRecDepth 100000 in
set_option maxHeartbeats 4000000 in
theorem mj_g10 : [mj_m240, mj_m241, mj_m242, mj_m243, mj_m244, mj_m245, mj_m246, mj_m247, mj_m248, mj_m249, mj_m250, mj_m251, mj_m252, mj_m253, mj_m254, mj_m255, mj_m256, mj_m257, mj_m258, mj_m259, mj_m260, mj_m261, mj_m262, mj_m263].all mj_cr = true := by decide +kernel
set_option maxRecDepth 100000 in
set_option maxHeartbeats 4000000 in
theorem mj_g11 : [mj_m264, mj_m265, mj_m266, mj_m267, mj_m268, mj_m269, mj_m270, mj_m271, mj_m272, mj_m273, mj_m274, mj_m275, mj_m276, mj_m277, mj_m278, mj_m279, mj_m280, mj_m281, mj_m282, mj_m283, mj_m284, mj_m285, mj_m286, mj_m287].all mj_cr = true := by decide +kernel
set_option maxRecDepth 100000 in
set_option maxHeartbeats 4000000 in
theorem mj_g12 : [mj_m288, mj_m289, mj_m290, mj_m291, mj_m292, mj_m293, mj_m294, mj_m295, mj_m296, mj_m297, mj_m298, mj_m299, mj_m300, mj_m301, mj_m302, mj_m303, mj_m304, mj_m305, mj_m306, mj_m307, mj_m308, mj_m309, mj_m310, mj_m311].all mj_cr = true := by decide +kernel
set_option maxRecDepth 100000 in
set_option maxHeartbeats 4000000 in
theorem mj_g13 : [mj_m312, mj_m313, mj_m314, mj_m315, mj_m316, mj_m317, mj_m318, mj_m319, mj_m320, mj_m321, mj_m322, mj_m323, mj_m324, mj_m325, mj_m326, mj_m327, mj_m328, mj_m329, mj_m330, mj_m331, mj_m332, mj_m333, mj_m334, mj_m335].all mj_cr = true := by decide +kernel
set_option maxRecDepth 100000 in
set_option maxHeartbeats 4000000 in
theorem mj_g14 : [mj_m336, mj_m337, mj_m338, mj_m339, mj_m340, mj_m341, mj_m342, mj_m343, mj_m344, mj_m345, mj_m346, mj_m347, mj_m348, mj_m349, mj_m350, mj_m351, mj_m352, mj_m353, mj_m354, mj_m355, mj_m356, mj_m357, mj_m358, mj_m359].all mj_cr = true := by decide +kernel
set_option maxRecDepth 100000 in
set_option maxHeartbeats 4000000 in
theorem mj_g15 : [mj_m360, mj_m361, mj_m362, mj_m363, mj_m364, mj_m365, mj_m366, mj_m367, mj_m368, mj_m369, mj_m370, mj_m371, mj_m372, mj_m373, mj_m374, mj_m375, mj_m376, mj_m377, mj_m378, mj_m379, mj_m380].all mj_cr = true := by decide +kernel
