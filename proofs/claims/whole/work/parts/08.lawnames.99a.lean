set_option maxRecDepth 20000 in
theorem ggL_law_X8_init : GoodIn wsL_law wsX8_init := goodIn_r _ [9, 10, 11, 12, 13, 14, 15, 16, 17, 18, 19, 20, 21, 22, 23, 24, 25, 26, 27, 28, 29, 30, 31, 32, 33, 34, 35, 36, 37, 38, 39, 40, 41, 42, 43, 44, 45, 46, 47, 48, 49, 50, 51, 52, 53, 54, 55, 56, 57, 58, 59, 60, 61, 62, 63, 64, 65, 66, 67, 68, 69, 70, 71, 72, 73, 74, 75, 76, 77, 78, 79, 80, 81, 82, 83, 84, 85, 86, 87, 88, 89, 90, 91, 92, 93, 94, 95, 96, 97, 98, 99, 100, 101, 102, 103, 104, 105, 106, 107, 108, 109, 110, 111, 112, 113, 114, 115, 116, 117, 118, 119, 120, 121, 122, 123, 124, 125, 126, 127, 128, 129, 130, 131, 132, 133, 134, 135, 136, 137, 138, 139, 140, 1250, 1251, 1252, 1253, 1254, 1255, 1256, 1257, 1258, 1259, 1260, 1284, 1285, 1286, 1287, 1288, 1289, 1290, 1291, 1292, 1293, 1294, 1295, 1296, 1297, 1298, 1299, 1300, 1301, 1302, 1303, 1304, 1305, 1306, 1307, 1308, 1309, 1310, 1311, 1312, 1313, 1314, 1315, 1316, 1317, 1318, 1319, 1320, 1321, 1322, 1323, 1324, 1325, 1326, 1327, 1328, 1329, 1330, 1331, 1332, 1333, 1334, 1335, 1336, 1337, 1338] (by decide +kernel) (by decide +kernel)
set_option maxRecDepth 20000 in
theorem gL_law_X8_init : GoodIn wsL_law (wsX8_init) := ggL_law_X8_init
set_option maxRecDepth 20000 in
theorem ggL_law_X9_init : GoodIn wsL_law wsX9_init := goodIn_r _ [143, 144, 11, 12, 13, 145, 146, 147, 148, 149, 150, 151, 152, 153, 154, 155, 156, 157, 158, 159, 1261, 1262, 1263, 1264, 1265, 1266, 1267, 1268, 1269, 1270, 1271, 1272, 1273, 1274, 1275, 1276, 1277, 1278, 1279, 1280, 1281, 1282, 1283] (by decide +kernel) (by decide +kernel)
set_option maxRecDepth 20000 in
theorem gL_law_X9_init : GoodIn wsL_law (wsX9_init) := ggL_law_X9_init
set_option maxRecDepth 20000 in
theorem ggL_law_X8_place : GoodIn wsL_law wsX8_place := goodIn_r _ [163, 18, 164, 165, 166, 167, 168, 2, 169, 14, 170, 1250, 1251, 1252, 1253, 1254, 1255, 1256, 1257, 1258, 1259, 1260, 1284, 1285, 1286, 1287, 1288, 1289, 1290, 1291, 1292, 1293, 1294, 1295, 1296, 1297, 1298, 1299, 1300, 1323, 1324, 1325] (by decide +kernel) (by decide +kernel)
set_option maxRecDepth 20000 in
theorem gL_law_X8_place : GoodIn wsL_law (wsV RL 13 RX8 yX8_place wsX8_place) := goodIn_app (goodIn_of _ (by decide +kernel)) ggL_law_X8_place
set_option maxRecDepth 20000 in
theorem ggL_law_X9_place : GoodIn wsL_law wsX9_place := goodIn_r _ [174, 145, 175, 176, 177, 5, 178, 147, 179, 1261, 1262, 1263, 1264, 1265, 1266, 1267, 1268, 1269, 1270, 1271, 1272, 1273, 1274, 1275, 1276, 1277, 1278, 1279, 1280, 1281, 1282, 1283] (by decide +kernel) (by decide +kernel)
set_option maxRecDepth 20000 in
theorem gL_law_X9_place : GoodIn wsL_law (wsV RL 17 RX9 yX9_place wsX9_place) := goodIn_app (goodIn_of _ (by decide +kernel)) ggL_law_X9_place
set_option maxRecDepth 20000 in
theorem ggL_law_X8_near : GoodIn wsL_law wsX8_near := goodIn_r _ [183, 18, 164, 184, 185, 186, 2, 187, 188, 189, 190, 191, 165, 192, 193, 194, 166, 167, 168, 169, 14, 170, 195, 196, 197, 47, 198, 76, 78, 79, 80, 81, 77, 82, 83, 84, 85, 86, 87, 88, 89, 90, 1250, 1251, 1252, 1253, 1254, 1255, 1256, 1257, 1258, 1259, 1260, 1284, 1285, 1286, 1287, 1288, 1289, 1290, 1291, 1292, 1293, 1294, 1295, 1296, 1297, 1298, 1299, 1300, 1323, 1324, 1325] (by decide +kernel) (by decide +kernel)
set_option maxRecDepth 20000 in
theorem gL_law_X8_near : GoodIn wsL_law (wsV RL 18 RX8 yX8_near wsX8_near) := goodIn_app (goodIn_of _ (by decide +kernel)) ggL_law_X8_near
set_option maxRecDepth 20000 in
theorem ggL_law_X9_near : GoodIn wsL_law wsX9_near := goodIn_r _ [202, 203, 145, 204, 205, 206, 5, 207, 208, 209, 210, 211, 212, 213, 214, 175, 176, 177, 178, 147, 179, 1261, 1262, 1263, 1264, 1265, 1266, 1267, 1268, 1269, 1270, 1271, 1272, 1273, 1274, 1275, 1276, 1277, 1278, 1279, 1280, 1281, 1282, 1283] (by decide +kernel) (by decide +kernel)
set_option maxRecDepth 20000 in
theorem gL_law_X9_near : GoodIn wsL_law (wsV RL 22 RX9 yX9_near wsX9_near) := goodIn_app (goodIn_of _ (by decide +kernel)) ggL_law_X9_near
set_option maxRecDepth 20000 in
theorem ggL_law_X8_way : GoodIn wsL_law wsX8_way := goodIn_r _ [218, 18, 164, 188, 189, 190, 2, 191, 165, 192, 193, 194, 166, 167, 168, 169, 14, 170, 219, 220, 221, 47, 222, 77, 90, 1250, 1251, 1252, 1253, 1254, 1255, 1256, 1257, 1258, 1259, 1260, 1284, 1285, 1286, 1287, 1288, 1289, 1290, 1291, 1292, 1293, 1294, 1295, 1296, 1297, 1298, 1299, 1300, 1323, 1324, 1325] (by decide +kernel) (by decide +kernel)
set_option maxRecDepth 20000 in
theorem gL_law_X8_way : GoodIn wsL_law (wsV RL 23 RX8 yX8_way wsX8_way) := goodIn_app (goodIn_of _ (by decide +kernel)) ggL_law_X8_way
set_option maxRecDepth 20000 in
theorem ggL_law_X9_way : GoodIn wsL_law wsX9_way := goodIn_r _ [226, 208, 209, 210, 5, 211, 145, 212, 213, 214, 175, 176, 177, 178, 147, 179, 227, 228, 229, 230, 148, 231, 232, 233, 234, 1261, 1262, 1263, 1264, 1265, 1266, 1267, 1268, 1269, 1270, 1271, 1272, 1273, 1274, 1275, 1276, 1277, 1278, 1279, 1280, 1281, 1282, 1283] (by decide +kernel) (by decide +kernel)
set_option maxRecDepth 20000 in
theorem gL_law_X9_way : GoodIn wsL_law (wsV RL 27 RX9 yX9_way wsX9_way) := goodIn_app (goodIn_of _ (by decide +kernel)) ggL_law_X9_way
set_option maxRecDepth 20000 in
theorem ggL_law_X8_route : GoodIn wsL_law wsX8_route := goodIn_r _ [238, 18, 164, 188, 189, 190, 2, 191, 165, 192, 193, 194, 166, 167, 168, 169, 14, 170, 219, 220, 221, 47, 222, 77, 90, 239, 240, 241, 242, 243, 244, 245, 246, 247, 248, 249, 250, 86, 87, 88, 89, 76, 1250, 1251, 1252, 1253, 1254, 1255, 1256, 1257, 1258, 1259, 1260, 1284, 1285, 1286, 1287, 1288, 1289, 1290, 1291, 1292, 1293, 1294, 1295, 1296, 1297, 1298, 1299, 1300, 1323, 1324, 1325] (by decide +kernel) (by decide +kernel)
set_option maxRecDepth 20000 in
theorem gL_law_X8_route : GoodIn wsL_law (wsV RL 28 RX8 yX8_route wsX8_route) := goodIn_app (goodIn_of _ (by decide +kernel)) ggL_law_X8_route
set_option maxRecDepth 20000 in
theorem ggL_law_X9_route : GoodIn wsL_law wsX9_route := goodIn_r _ [254, 149, 208, 209, 210, 5, 211, 145, 212, 213, 214, 175, 176, 177, 178, 147, 179, 227, 228, 229, 230, 148, 231, 232, 233, 234, 255, 256, 257, 258, 259, 260, 261, 262, 1261, 1262, 1263, 1264, 1265, 1266, 1267, 1268, 1269, 1270, 1271, 1272, 1273, 1274, 1275, 1276, 1277, 1278, 1279, 1280, 1281, 1282, 1283] (by decide +kernel) (by decide +kernel)
set_option maxRecDepth 20000 in
theorem gL_law_X9_route : GoodIn wsL_law (wsV RL 31 RX9 yX9_route wsX9_route) := goodIn_app (goodIn_of _ (by decide +kernel)) ggL_law_X9_route
set_option maxRecDepth 20000 in
theorem ggL_law_X8_rule : GoodIn wsL_law wsX8_rule := goodIn_r _ [266, 18, 267, 268, 192, 193, 2, 194, 166, 167, 168, 169, 14, 170, 1250, 1251, 1252, 1253, 1254, 1255, 1256, 1257, 1258, 1259, 1260, 1284, 1285, 1286, 1287, 1288, 1289, 1290, 1291, 1292, 1293, 1294, 1295, 1296, 1297, 1298, 1299, 1300] (by decide +kernel) (by decide +kernel)
set_option maxRecDepth 20000 in
theorem gL_law_X8_rule : GoodIn wsL_law (wsV RL 32 RX8 yX8_rule wsX8_rule) := goodIn_app (goodIn_of _ (by decide +kernel)) ggL_law_X8_rule
set_option maxRecDepth 20000 in
theorem ggL_law_X9_rule : GoodIn wsL_law wsX9_rule := goodIn_r _ [272, 273, 274, 275, 145, 212, 213, 5, 214, 175, 176, 177, 178, 147, 179, 1261, 1262, 1263, 1264, 1265, 1266, 1267, 1268, 1269, 1270, 1271, 1272, 1273, 1274, 1275, 1276, 1277, 1278, 1279, 1280, 1281, 1282, 1283] (by decide +kernel) (by decide +kernel)
set_option maxRecDepth 20000 in
theorem gL_law_X9_rule : GoodIn wsL_law (wsV RL 35 RX9 yX9_rule wsX9_rule) := goodIn_app (goodIn_of _ (by decide +kernel)) ggL_law_X9_rule
set_option maxRecDepth 20000 in
theorem ggL_law_X8_loss : GoodIn wsL_law wsX8_loss := goodIn_r _ [279, 18, 280, 281, 282, 2, 283, 192, 193, 194, 166, 167, 168, 169, 14, 170, 1250, 1251, 1252, 1253, 1254, 1255, 1256, 1257, 1258, 1259, 1260, 1284, 1285, 1286, 1287, 1288, 1289, 1290, 1291, 1292, 1293, 1294, 1295, 1296, 1297, 1298, 1299, 1300] (by decide +kernel) (by decide +kernel)
set_option maxRecDepth 20000 in
theorem gL_law_X8_loss : GoodIn wsL_law (wsV RL 36 RX8 yX8_loss wsX8_loss) := goodIn_app (goodIn_of _ (by decide +kernel)) ggL_law_X8_loss
set_option maxRecDepth 20000 in
theorem ggL_law_X9_loss : GoodIn wsL_law wsX9_loss := goodIn_r _ [287, 145, 288, 289, 5, 290, 275, 212, 213, 214, 175, 176, 177, 178, 147, 179, 1261, 1262, 1263, 1264, 1265, 1266, 1267, 1268, 1269, 1270, 1271, 1272, 1273, 1274, 1275, 1276, 1277, 1278, 1279, 1280, 1281, 1282, 1283] (by decide +kernel) (by decide +kernel)
set_option maxRecDepth 20000 in
theorem gL_law_X9_loss : GoodIn wsL_law (wsV RL 40 RX9 yX9_loss wsX9_loss) := goodIn_app (goodIn_of _ (by decide +kernel)) ggL_law_X9_loss
set_option maxRecDepth 20000 in
theorem ggL_law_X8_word : GoodIn wsL_law wsX8_word := goodIn_r _ [294, 18, 295, 296, 297, 2, 298, 164, 24, 299, 192, 193, 194, 300, 301, 302, 303, 184, 185, 186, 187, 188, 189, 190, 191, 165, 304, 305, 306, 219, 220, 221, 47, 222, 77, 90, 166, 167, 168, 169, 14, 170, 307, 308, 309, 17, 310, 65, 311, 64, 312, 313, 84, 314, 61, 48, 52, 62, 315, 316, 317, 318, 51, 319, 94, 95, 96, 97, 98, 99, 100, 101, 102, 320, 321, 322, 323, 103, 104, 324, 325, 326, 327, 328, 329, 330, 331, 332, 1250, 1251, 1252, 1253, 1254, 1255, 1256, 1257, 1258, 1259, 1260, 1284, 1285, 1286, 1287, 1288, 1289, 1290, 1291, 1292, 1293, 1294, 1295, 1296, 1297, 1298, 1299, 1300, 1326, 1327, 1328, 1329, 1330, 1331, 1332, 1333, 1334, 1335, 1336, 1323, 1324, 1325] (by decide +kernel) (by decide +kernel)
set_option maxRecDepth 20000 in
theorem gL_law_X8_word : GoodIn wsL_law (wsV RL 41 RX8 yX8_word wsX8_word) := goodIn_app (goodIn_of _ (by decide +kernel)) ggL_law_X8_word
set_option maxRecDepth 20000 in
theorem ggL_law_X9_word : GoodIn wsL_law wsX9_word := goodIn_r _ [336, 145, 337, 338, 339, 5, 340, 341, 212, 213, 214, 342, 343, 344, 345, 204, 205, 206, 207, 208, 209, 210, 211, 346, 347, 348, 349, 227, 228, 229, 230, 148, 231, 232, 233, 234, 175, 176, 177, 178, 147, 179, 350, 351, 352, 353, 354, 355, 356, 357, 358, 359, 360, 361, 362, 363, 364, 365, 366, 367, 368, 369, 370, 1261, 1262, 1263, 1264, 1265, 1266, 1267, 1268, 1269, 1270, 1271, 1272, 1273, 1274, 1275, 1276, 1277, 1278, 1279, 1280, 1281, 1282, 1283] (by decide +kernel) (by decide +kernel)
set_option maxRecDepth 20000 in
theorem gL_law_X9_word : GoodIn wsL_law (wsV RL 44 RX9 yX9_word wsX9_word) := goodIn_app (goodIn_of _ (by decide +kernel)) ggL_law_X9_word
set_option maxRecDepth 20000 in
theorem ggL_law_X8_ofWord : GoodIn wsL_law wsX8_ofWord := goodIn_r _ [374, 18, 24, 375, 376, 377, 378, 379, 380, 381, 382, 383, 384, 385, 2, 386, 299, 192, 193, 194, 166, 167, 168, 169, 14, 170, 1250, 1251, 1252, 1253, 1254, 1255, 1256, 1257, 1258, 1259, 1260, 1284, 1285, 1286, 1287, 1288, 1289, 1290, 1291, 1292, 1293, 1294, 1295, 1296, 1297, 1298, 1299, 1300, 1326, 1327, 1328, 1329, 1330, 1331, 1332, 1333, 1334, 1335, 1336] (by decide +kernel) (by decide +kernel)
set_option maxRecDepth 20000 in
theorem gL_law_X8_ofWord : GoodIn wsL_law (wsV RL 45 RX8 yX8_ofWord wsX8_ofWord) := goodIn_app (goodIn_of _ (by decide +kernel)) ggL_law_X8_ofWord
set_option maxRecDepth 20000 in
theorem ggL_law_X9_ofWord : GoodIn wsL_law wsX9_ofWord := goodIn_r _ [390, 391, 392, 393, 394, 5, 395, 145, 212, 213, 214, 362, 363, 364, 365, 175, 176, 177, 178, 147, 179, 1261, 1262, 1263, 1264, 1265, 1266, 1267, 1268, 1269, 1270, 1271, 1272, 1273, 1274, 1275, 1276, 1277, 1278, 1279, 1280, 1281, 1282, 1283] (by decide +kernel) (by decide +kernel)
set_option maxRecDepth 20000 in
theorem gL_law_X9_ofWord : GoodIn wsL_law (wsV RL 48 RX9 yX9_ofWord wsX9_ofWord) := goodIn_app (goodIn_of _ (by decide +kernel)) ggL_law_X9_ofWord
set_option maxRecDepth 20000 in
theorem ggL_law_X8_lose : GoodIn wsL_law wsX8_lose := goodIn_r _ [399, 18, 24, 380, 400, 383, 384, 385, 2, 386, 299, 192, 193, 194, 166, 167, 168, 169, 14, 170, 401, 402, 403, 51, 404, 100, 103, 104, 1250, 1251, 1252, 1253, 1254, 1255, 1256, 1257, 1258, 1259, 1260, 1284, 1285, 1286, 1287, 1288, 1289, 1290, 1291, 1292, 1293, 1294, 1295, 1296, 1297, 1298, 1299, 1300, 1326, 1327, 1328, 1329, 1330, 1331, 1332, 1333, 1334, 1335, 1336] (by decide +kernel) (by decide +kernel)
set_option maxRecDepth 20000 in
theorem gL_law_X8_lose : GoodIn wsL_law (wsV RL 49 RX8 yX8_lose wsX8_lose) := goodIn_app (goodIn_of _ (by decide +kernel)) ggL_law_X8_lose
set_option maxRecDepth 20000 in
theorem ggL_law_X9_lose : GoodIn wsL_law wsX9_lose := goodIn_r _ [408, 145, 392, 393, 394, 5, 395, 212, 213, 214, 175, 176, 177, 178, 147, 179, 362, 363, 364, 365, 1261, 1262, 1263, 1264, 1265, 1266, 1267, 1268, 1269, 1270, 1271, 1272, 1273, 1274, 1275, 1276, 1277, 1278, 1279, 1280, 1281, 1282, 1283] (by decide +kernel) (by decide +kernel)
set_option maxRecDepth 20000 in
theorem gL_law_X9_lose : GoodIn wsL_law (wsV RL 52 RX9 yX9_lose wsX9_lose) := goodIn_app (goodIn_of _ (by decide +kernel)) ggL_law_X9_lose
set_option maxRecDepth 20000 in
theorem ggL_law_X8_as : GoodIn wsL_law wsX8_as := goodIn_r _ [412, 18, 24, 375, 381, 383, 384, 385, 2, 386, 299, 192, 193, 194, 166, 167, 168, 169, 14, 170, 413, 414, 415, 416, 1250, 1251, 1252, 1253, 1254, 1255, 1256, 1257, 1258, 1259, 1260, 1284, 1285, 1286, 1287, 1288, 1289, 1290, 1291, 1292, 1293, 1294, 1295, 1296, 1297, 1298, 1299, 1300, 1326, 1327, 1328, 1329, 1330, 1331, 1332, 1333, 1334, 1335, 1336] (by decide +kernel) (by decide +kernel)
set_option maxRecDepth 20000 in
theorem gL_law_X8_as : GoodIn wsL_law (wsV RL 53 RX8 yX8_as wsX8_as) := goodIn_app (goodIn_of _ (by decide +kernel)) ggL_law_X8_as
set_option maxRecDepth 20000 in
theorem ggL_law_X9_as : GoodIn wsL_law wsX9_as := goodIn_r _ [420, 341, 392, 393, 394, 5, 395, 145, 212, 213, 214, 175, 176, 177, 178, 147, 179, 362, 363, 364, 365, 421, 422, 423, 1261, 1262, 1263, 1264, 1265, 1266, 1267, 1268, 1269, 1270, 1271, 1272, 1273, 1274, 1275, 1276, 1277, 1278, 1279, 1280, 1281, 1282, 1283] (by decide +kernel) (by decide +kernel)
set_option maxRecDepth 20000 in
theorem gL_law_X9_as : GoodIn wsL_law (wsV RL 56 RX9 yX9_as wsX9_as) := goodIn_app (goodIn_of _ (by decide +kernel)) ggL_law_X9_as
set_option maxRecDepth 20000 in
theorem ggL_law_X8_words : GoodIn wsL_law wsX8_words := goodIn_r _ [427, 38, 428, 429, 430, 18, 431, 432, 2, 433, 192, 193, 194, 166, 167, 168, 169, 14, 170, 295, 296, 297, 298, 164, 24, 299, 300, 301, 302, 303, 184, 185, 186, 187, 188, 189, 190, 191, 165, 304, 305, 306, 219, 220, 221, 47, 222, 77, 90, 307, 308, 309, 17, 310, 65, 311, 64, 312, 313, 84, 314, 61, 48, 52, 62, 315, 316, 317, 318, 51, 319, 94, 95, 96, 97, 98, 99, 100, 101, 102, 320, 321, 322, 323, 103, 104, 324, 325, 326, 327, 328, 329, 330, 331, 332, 1250, 1251, 1252, 1253, 1254, 1255, 1256, 1257, 1258, 1259, 1260, 1320, 1321, 1322, 1284, 1285, 1286, 1287, 1288, 1289, 1290, 1291, 1292, 1293, 1294, 1295, 1296, 1297, 1298, 1299, 1300, 1326, 1327, 1328, 1329, 1330, 1331, 1332, 1333, 1334, 1335, 1336, 1323, 1324, 1325] (by decide +kernel) (by decide +kernel)
set_option maxRecDepth 20000 in
theorem gL_law_X8_words : GoodIn wsL_law (wsV RL 57 RX8 yX8_words wsX8_words) := goodIn_app (goodIn_of _ (by decide +kernel)) ggL_law_X8_words
set_option maxRecDepth 20000 in
theorem ggL_law_X9_words : GoodIn wsL_law wsX9_words := goodIn_r _ [437, 156, 157, 158, 438, 439, 5, 440, 349, 212, 213, 214, 175, 176, 177, 178, 147, 179, 337, 338, 339, 340, 341, 145, 342, 343, 344, 345, 204, 205, 206, 207, 208, 209, 210, 211, 346, 347, 348, 227, 228, 229, 230, 148, 231, 232, 233, 234, 350, 351, 352, 353, 354, 355, 356, 357, 358, 359, 360, 361, 362, 363, 364, 365, 366, 367, 368, 369, 370, 1261, 1262, 1263, 1264, 1265, 1266, 1267, 1268, 1269, 1270, 1271, 1272, 1273, 1274, 1275, 1276, 1277, 1278, 1279, 1280, 1281, 1282, 1283] (by decide +kernel) (by decide +kernel)
set_option maxRecDepth 20000 in
theorem gL_law_X9_words : GoodIn wsL_law (wsV RL 60 RX9 yX9_words wsX9_words) := goodIn_app (goodIn_of _ (by decide +kernel)) ggL_law_X9_words
set_option maxRecDepth 20000 in
theorem ggL_law_X8_came : GoodIn wsL_law wsX8_came := goodIn_r _ [444, 18, 24, 188, 189, 190, 2, 191, 164, 165, 192, 193, 194, 304, 305, 306, 166, 167, 168, 169, 14, 170, 445, 446, 447, 51, 448, 103, 100, 104, 325, 326, 327, 328, 97, 98, 1250, 1251, 1252, 1253, 1254, 1255, 1256, 1257, 1258, 1259, 1260, 1284, 1285, 1286, 1287, 1288, 1289, 1290, 1291, 1292, 1293, 1294, 1295, 1296, 1297, 1298, 1299, 1300, 1323, 1324, 1325, 1326, 1327, 1328, 1329, 1330, 1331, 1332, 1333, 1334, 1335, 1336] (by decide +kernel) (by decide +kernel)
set_option maxRecDepth 20000 in
theorem gL_law_X8_came : GoodIn wsL_law (wsV RL 61 RX8 yX8_came wsX8_came) := goodIn_app (goodIn_of _ (by decide +kernel)) ggL_law_X8_came
set_option maxRecDepth 20000 in
theorem ggL_law_X9_came : GoodIn wsL_law wsX9_came := goodIn_r _ [452, 453, 454, 455, 5, 456, 457, 208, 209, 210, 211, 145, 212, 213, 214, 346, 347, 348, 349, 458, 459, 460, 461, 358, 359, 360, 361, 362, 363, 364, 365, 175, 176, 177, 178, 147, 179, 1261, 1262, 1263, 1264, 1265, 1266, 1267, 1268, 1269, 1270, 1271, 1272, 1273, 1274, 1275, 1276, 1277, 1278, 1279, 1280, 1281, 1282, 1283] (by decide +kernel) (by decide +kernel)
set_option maxRecDepth 20000 in
theorem gL_law_X9_came : GoodIn wsL_law (wsV RL 64 RX9 yX9_came wsX9_came) := goodIn_app (goodIn_of _ (by decide +kernel)) ggL_law_X9_came
set_option maxRecDepth 20000 in
theorem ggL_law_X8_stance : GoodIn wsL_law wsX8_stance := goodIn_r _ [465, 18, 400, 25, 188, 189, 190, 2, 191, 164, 165, 192, 193, 194, 304, 305, 306, 166, 167, 168, 169, 14, 170, 466, 467, 468, 23, 469, 470, 471, 472, 473, 474, 475, 476, 477, 478, 479, 119, 480, 111, 112, 113, 481, 482, 483, 484, 118, 485, 486, 487, 488, 326, 327, 51, 328, 97, 98, 489, 490, 491, 492, 96, 493, 494, 495, 496, 497, 498, 499, 500, 83, 84, 85, 501, 502, 503, 504, 505, 506, 507, 508, 509, 510, 511, 512, 513, 514, 515, 516, 517, 518, 519, 520, 521, 522, 523, 313, 314, 524, 525, 526, 527, 99, 101, 528, 529, 530, 531, 532, 533, 534, 535, 536, 537, 538, 539, 540, 1250, 1251, 1252, 1253, 1254, 1255, 1256, 1257, 1258, 1259, 1260, 1284, 1285, 1286, 1287, 1288, 1289, 1290, 1291, 1292, 1293, 1294, 1295, 1296, 1297, 1298, 1299, 1300, 1323, 1324, 1325, 1301, 1302, 1303, 1304, 1305, 1306, 1307, 1308, 1326, 1327, 1328, 1329, 1330, 1331, 1332, 1333, 1334, 1335, 1336] (by decide +kernel) (by decide +kernel)
set_option maxRecDepth 20000 in
theorem gL_law_X8_stance : GoodIn wsL_law (wsV RL 65 RX8 yX8_stance wsX8_stance) := goodIn_app (goodIn_of _ (by decide +kernel)) ggL_law_X8_stance
set_option maxRecDepth 20000 in
theorem ggL_law_X9_stance : GoodIn wsL_law wsX9_stance := goodIn_r _ [544, 145, 208, 209, 210, 5, 211, 212, 213, 214, 346, 347, 348, 349, 545, 546, 547, 548, 153, 150, 549, 550, 551, 552, 553, 554, 555, 556, 457, 362, 363, 364, 365, 557, 558, 559, 560, 561, 562, 563, 564, 151, 565, 566, 567, 568, 569, 570, 571, 572, 573, 574, 575, 576, 577, 578, 579, 580, 581, 582, 583, 584, 421, 422, 423, 358, 359, 360, 361, 175, 176, 177, 178, 147, 179, 1261, 1262, 1263, 1264, 1265, 1266, 1267, 1268, 1269, 1270, 1271, 1272, 1273, 1274, 1275, 1276, 1277, 1278, 1279, 1280, 1281, 1282, 1283] (by decide +kernel) (by decide +kernel)
set_option maxRecDepth 20000 in
theorem gL_law_X9_stance : GoodIn wsL_law (wsV RL 68 RX9 yX9_stance wsX9_stance) := goodIn_app (goodIn_of _ (by decide +kernel)) ggL_law_X9_stance
set_option maxRecDepth 20000 in
theorem ggL_law_X8_made : GoodIn wsL_law wsX8_made := goodIn_r _ [588, 184, 185, 186, 2, 187, 188, 189, 190, 191, 18, 164, 165, 192, 193, 194, 304, 305, 306, 166, 167, 168, 169, 14, 170, 589, 590, 591, 592, 25, 26, 593, 83, 84, 85, 400, 594, 472, 473, 23, 474, 475, 476, 470, 477, 478, 479, 119, 480, 111, 112, 113, 481, 482, 483, 484, 118, 485, 486, 487, 488, 326, 327, 51, 328, 97, 98, 489, 490, 491, 492, 96, 595, 494, 495, 496, 497, 498, 499, 500, 501, 502, 503, 504, 505, 506, 507, 508, 596, 510, 511, 512, 513, 514, 515, 516, 517, 518, 519, 520, 521, 522, 523, 313, 314, 524, 525, 526, 527, 99, 101, 528, 529, 530, 531, 532, 533, 534, 535, 536, 537, 538, 539, 540, 597, 598, 599, 600, 1250, 1251, 1252, 1253, 1254, 1255, 1256, 1257, 1258, 1259, 1260, 1284, 1285, 1286, 1287, 1288, 1289, 1290, 1291, 1292, 1293, 1294, 1295, 1296, 1297, 1298, 1299, 1300, 1323, 1324, 1325, 1301, 1302, 1303, 1304, 1305, 1306, 1307, 1308, 1326, 1327, 1328, 1329, 1330, 1331, 1332, 1333, 1334, 1335, 1336] (by decide +kernel) (by decide +kernel)
set_option maxRecDepth 20000 in
theorem gL_law_X8_made : GoodIn wsL_law (wsV RL 69 RX8 yX8_made wsX8_made) := goodIn_app (goodIn_of _ (by decide +kernel)) ggL_law_X8_made
set_option maxRecDepth 20000 in
theorem ggL_law_X9_made : GoodIn wsL_law wsX9_made := goodIn_r _ [604, 145, 153, 150, 204, 205, 206, 5, 207, 208, 209, 210, 211, 212, 213, 214, 346, 347, 348, 349, 175, 176, 177, 178, 147, 179, 549, 550, 551, 552, 553, 554, 555, 556, 457, 362, 363, 364, 365, 557, 558, 559, 560, 561, 562, 563, 564, 151, 565, 566, 567, 568, 569, 570, 571, 572, 573, 574, 575, 576, 577, 578, 579, 580, 581, 582, 583, 584, 421, 422, 423, 358, 359, 360, 361, 1261, 1262, 1263, 1264, 1265, 1266, 1267, 1268, 1269, 1270, 1271, 1272, 1273, 1274, 1275, 1276, 1277, 1278, 1279, 1280, 1281, 1282, 1283] (by decide +kernel) (by decide +kernel)
set_option maxRecDepth 20000 in
theorem gL_law_X9_made : GoodIn wsL_law (wsV RL 72 RX9 yX9_made wsX9_made) := goodIn_app (goodIn_of _ (by decide +kernel)) ggL_law_X9_made
set_option maxRecDepth 20000 in
theorem ggL_law_X8_knows : GoodIn wsL_law wsX8_knows := goodIn_r _ [608, 18, 24, 188, 189, 190, 2, 191, 164, 165, 192, 193, 194, 304, 305, 306, 166, 167, 168, 169, 14, 170, 609, 321, 322, 51, 323, 103, 100, 104, 102, 324, 313, 84, 314, 325, 326, 327, 328, 97, 98, 1250, 1251, 1252, 1253, 1254, 1255, 1256, 1257, 1258, 1259, 1260, 1284, 1285, 1286, 1287, 1288, 1289, 1290, 1291, 1292, 1293, 1294, 1295, 1296, 1297, 1298, 1299, 1300, 1323, 1324, 1325, 1326, 1327, 1328, 1329, 1330, 1331, 1332, 1333, 1334, 1335, 1336] (by decide +kernel) (by decide +kernel)
set_option maxRecDepth 20000 in
theorem gL_law_X8_knows : GoodIn wsL_law (wsV RL 73 RX8 yX8_knows wsX8_knows) := goodIn_app (goodIn_of _ (by decide +kernel)) ggL_law_X8_knows
set_option maxRecDepth 20000 in
theorem ggL_law_X9_knows : GoodIn wsL_law wsX9_knows := goodIn_r _ [613, 453, 454, 455, 5, 456, 457, 208, 209, 210, 211, 145, 212, 213, 214, 346, 347, 348, 349, 354, 355, 356, 357, 358, 359, 360, 361, 362, 363, 364, 365, 175, 176, 177, 178, 147, 179, 1261, 1262, 1263, 1264, 1265, 1266, 1267, 1268, 1269, 1270, 1271, 1272, 1273, 1274, 1275, 1276, 1277, 1278, 1279, 1280, 1281, 1282, 1283] (by decide +kernel) (by decide +kernel)
set_option maxRecDepth 20000 in
theorem gL_law_X9_knows : GoodIn wsL_law (wsV RL 76 RX9 yX9_knows wsX9_knows) := goodIn_app (goodIn_of _ (by decide +kernel)) ggL_law_X9_knows
set_option maxRecDepth 20000 in
theorem ggL_law_X8_feed : GoodIn wsL_law wsX8_feed := goodIn_r _ [617, 18, 618, 619, 192, 193, 2, 194, 166, 167, 168, 169, 14, 170, 1250, 1251, 1252, 1253, 1254, 1255, 1256, 1257, 1258, 1259, 1260, 1284, 1285, 1286, 1287, 1288, 1289, 1290, 1291, 1292, 1293, 1294, 1295, 1296, 1297, 1298, 1299, 1300] (by decide +kernel) (by decide +kernel)
set_option maxRecDepth 20000 in
theorem gL_law_X8_feed : GoodIn wsL_law (wsV RL 79 RX8 yX8_feed wsX8_feed) := goodIn_app (goodIn_of _ (by decide +kernel)) ggL_law_X8_feed
set_option maxRecDepth 20000 in
theorem ggL_law_X9_feed : GoodIn wsL_law wsX9_feed := goodIn_r _ [623, 624, 145, 625, 212, 213, 5, 214, 175, 176, 177, 178, 147, 179, 1261, 1262, 1263, 1264, 1265, 1266, 1267, 1268, 1269, 1270, 1271, 1272, 1273, 1274, 1275, 1276, 1277, 1278, 1279, 1280, 1281, 1282, 1283] (by decide +kernel) (by decide +kernel)
set_option maxRecDepth 20000 in
theorem gL_law_X9_feed : GoodIn wsL_law (wsV RL 83 RX9 yX9_feed wsX9_feed) := goodIn_app (goodIn_of _ (by decide +kernel)) ggL_law_X9_feed
set_option maxRecDepth 20000 in
theorem ggL_law_X8_text : GoodIn wsL_law wsX8_text := goodIn_r _ [629, 30, 18, 619, 618, 630, 631, 632, 192, 193, 2, 194, 166, 167, 168, 169, 14, 170, 633, 634, 635, 29, 636, 125, 637, 126, 638, 639, 640, 641, 642, 643, 644, 645, 646, 647, 648, 649, 650, 651, 652, 653, 654, 655, 656, 657, 658, 659, 660, 661, 662, 663, 664, 665, 666, 667, 668, 669, 670, 671, 672, 673, 674, 675, 676, 677, 678, 679, 680, 681, 682, 313, 84, 314, 683, 83, 85, 684, 685, 686, 687, 688, 689, 690, 691, 692, 693, 694, 695, 696, 697, 698, 699, 700, 701, 702, 703, 704, 705, 706, 707, 708, 709, 710, 711, 712, 713, 714, 715, 716, 717, 718, 719, 720, 721, 722, 723, 724, 725, 726, 727, 728, 729, 730, 731, 732, 733, 734, 735, 736, 737, 738, 739, 740, 741, 124, 742, 743, 744, 745, 746, 747, 748, 749, 750, 751, 752, 753, 754, 755, 756, 757, 758, 759, 760, 70, 761, 108, 762, 763, 764, 765, 109, 1250, 1251, 1252, 1253, 1254, 1255, 1256, 1257, 1258, 1259, 1260, 1284, 1285, 1286, 1287, 1288, 1289, 1290, 1291, 1292, 1293, 1294, 1295, 1296, 1297, 1298, 1299, 1300, 1309, 1310, 1311, 1312, 1313, 1314, 1337, 1338] (by decide +kernel) (by decide +kernel)
set_option maxRecDepth 20000 in
theorem gL_law_X8_text : GoodIn wsL_law (wsV RL 84 RX8 yX8_text wsX8_text) := goodIn_app (goodIn_of _ (by decide +kernel)) ggL_law_X8_text
set_option maxRecDepth 20000 in
theorem ggL_law_X9_text : GoodIn wsL_law wsX9_text := goodIn_r _ [769, 145, 770, 771, 772, 5, 773, 391, 212, 213, 214, 175, 176, 177, 178, 147, 179, 774, 775, 776, 777, 778, 779, 780, 781, 782, 783, 784, 785, 786, 787, 788, 789, 790, 791, 792, 793, 794, 795, 796, 797, 798, 799, 800, 801, 802, 803, 804, 805, 806, 807, 808, 809, 810, 811, 812, 813, 814, 154, 815, 816, 817, 818, 819, 820, 821, 822, 823, 824, 1261, 1262, 1263, 1264, 1265, 1266, 1267, 1268, 1269, 1270, 1271, 1272, 1273, 1274, 1275, 1276, 1277, 1278, 1279, 1280, 1281, 1282, 1283] (by decide +kernel) (by decide +kernel)
set_option maxRecDepth 20000 in
theorem gL_law_X9_text : GoodIn wsL_law (wsV RL 87 RX9 yX9_text wsX9_text) := goodIn_app (goodIn_of _ (by decide +kernel)) ggL_law_X9_text
set_option maxRecDepth 20000 in
theorem ggL_law_X8_law : GoodIn wsL_law wsX8_law := goodIn_r _ [828, 18, 630, 31, 32, 192, 193, 2, 194, 166, 167, 168, 169, 14, 170, 829, 830, 831, 832, 833, 834, 835, 70, 836, 109, 108, 837, 838, 839, 840, 841, 842, 1250, 1251, 1252, 1253, 1254, 1255, 1256, 1257, 1258, 1259, 1260, 1284, 1285, 1286, 1287, 1288, 1289, 1290, 1291, 1292, 1293, 1294, 1295, 1296, 1297, 1298, 1299, 1300, 1337, 1338] (by decide +kernel) (by decide +kernel)
set_option maxRecDepth 20000 in
theorem gL_law_X8_law : GoodIn wsL_law (wsV RL 88 RX8 yX8_law wsX8_law) := goodIn_app (goodIn_of _ (by decide +kernel)) ggL_law_X8_law
set_option maxRecDepth 20000 in
theorem ggL_law_X9_law : GoodIn wsL_law wsX9_law := goodIn_r _ [846, 154, 771, 772, 5, 773, 391, 212, 213, 214, 175, 176, 177, 178, 147, 179, 847, 848, 849, 850, 145, 774, 775, 776, 777, 778, 779, 780, 770, 781, 782, 783, 784, 785, 786, 787, 788, 789, 790, 791, 792, 793, 794, 795, 796, 797, 798, 799, 800, 801, 802, 803, 804, 805, 806, 807, 808, 809, 810, 811, 812, 813, 814, 815, 816, 817, 818, 819, 820, 821, 822, 823, 824, 1261, 1262, 1263, 1264, 1265, 1266, 1267, 1268, 1269, 1270, 1271, 1272, 1273, 1274, 1275, 1276, 1277, 1278, 1279, 1280, 1281, 1282, 1283] (by decide +kernel) (by decide +kernel)
set_option maxRecDepth 20000 in
theorem gL_law_X9_law : GoodIn wsL_law (wsV RL 91 RX9 yX9_law wsX9_law) := goodIn_app (goodIn_of _ (by decide +kernel)) ggL_law_X9_law
set_option maxRecDepth 20000 in
theorem ggL_law_X8_aim : GoodIn wsL_law wsX8_aim := goodIn_r _ [854, 18, 855, 188, 189, 190, 2, 191, 164, 165, 192, 193, 194, 166, 167, 168, 169, 14, 170, 184, 185, 186, 187, 304, 305, 306, 1250, 1251, 1252, 1253, 1254, 1255, 1256, 1257, 1258, 1259, 1260, 1284, 1285, 1286, 1287, 1288, 1289, 1290, 1291, 1292, 1293, 1294, 1295, 1296, 1297, 1298, 1299, 1300, 1323, 1324, 1325] (by decide +kernel) (by decide +kernel)
set_option maxRecDepth 20000 in
theorem gL_law_X8_aim : GoodIn wsL_law (wsV RL 92 RX8 yX8_aim wsX8_aim) := goodIn_app (goodIn_of _ (by decide +kernel)) ggL_law_X8_aim
set_option maxRecDepth 20000 in
theorem ggL_law_X9_aim : GoodIn wsL_law wsX9_aim := goodIn_r _ [859, 145, 208, 209, 210, 5, 211, 212, 213, 214, 204, 205, 206, 207, 346, 347, 348, 349, 175, 176, 177, 178, 147, 179, 1261, 1262, 1263, 1264, 1265, 1266, 1267, 1268, 1269, 1270, 1271, 1272, 1273, 1274, 1275, 1276, 1277, 1278, 1279, 1280, 1281, 1282, 1283] (by decide +kernel) (by decide +kernel)
set_option maxRecDepth 20000 in
theorem gL_law_X9_aim : GoodIn wsL_law (wsV RL 95 RX9 yX9_aim wsX9_aim) := goodIn_app (goodIn_of _ (by decide +kernel)) ggL_law_X9_aim
set_option maxRecDepth 20000 in
theorem ggL_law_X8_live : GoodIn wsL_law wsX8_live := goodIn_r _ [863, 18, 400, 164, 165, 192, 193, 2, 194, 166, 167, 168, 169, 14, 170, 864, 865, 866, 867, 855, 24, 25, 630, 31, 32, 466, 467, 468, 23, 469, 470, 471, 472, 473, 474, 475, 476, 477, 478, 479, 119, 480, 111, 112, 113, 481, 482, 483, 484, 118, 485, 486, 487, 488, 326, 327, 51, 328, 97, 98, 489, 490, 491, 492, 96, 493, 494, 495, 496, 497, 498, 499, 500, 83, 84, 85, 501, 502, 503, 504, 505, 506, 507, 508, 509, 510, 511, 512, 513, 514, 515, 516, 517, 518, 519, 520, 521, 522, 523, 313, 314, 524, 525, 526, 527, 99, 101, 528, 529, 530, 531, 532, 533, 534, 535, 536, 537, 538, 539, 540, 445, 446, 447, 448, 103, 100, 104, 325, 868, 869, 870, 871, 95, 829, 830, 831, 832, 833, 834, 835, 70, 836, 109, 108, 837, 838, 839, 840, 841, 842, 295, 296, 297, 298, 299, 300, 301, 302, 303, 184, 185, 186, 187, 188, 189, 190, 191, 304, 305, 306, 219, 220, 221, 47, 222, 77, 90, 307, 308, 309, 17, 310, 65, 311, 64, 312, 61, 48, 52, 62, 315, 316, 317, 318, 319, 94, 102, 320, 321, 322, 323, 324, 329, 330, 331, 332, 1250, 1251, 1252, 1253, 1254, 1255, 1256, 1257, 1258, 1259, 1260, 1284, 1285, 1286, 1287, 1288, 1289, 1290, 1291, 1292, 1293, 1294, 1295, 1296, 1297, 1298, 1299, 1300, 1323, 1324, 1325, 1301, 1302, 1303, 1304, 1305, 1306, 1307, 1308, 1326, 1327, 1328, 1329, 1330, 1331, 1332, 1333, 1334, 1335, 1336, 1337, 1338] (by decide +kernel) (by decide +kernel)
set_option maxRecDepth 20000 in
theorem gL_law_X8_live : GoodIn wsL_law (wsV RL 96 RX8 yX8_live wsX8_live) := goodIn_app (goodIn_of _ (by decide +kernel)) ggL_law_X8_live
set_option maxRecDepth 20000 in
theorem ggL_law_X9_live : GoodIn wsL_law wsX9_live := goodIn_r _ [875, 876, 145, 212, 213, 5, 214, 175, 176, 177, 178, 147, 179, 877, 878, 879, 880, 154, 341, 545, 546, 547, 548, 153, 150, 549, 550, 551, 552, 553, 554, 555, 556, 457, 362, 363, 364, 365, 557, 558, 559, 560, 561, 562, 563, 564, 151, 565, 566, 567, 568, 569, 570, 571, 572, 573, 574, 575, 576, 577, 578, 579, 580, 581, 582, 583, 584, 421, 422, 423, 358, 359, 360, 361, 458, 459, 460, 461, 881, 882, 883, 884, 847, 848, 849, 850, 774, 775, 776, 777, 778, 779, 780, 770, 781, 782, 783, 784, 785, 786, 787, 788, 789, 790, 791, 792, 793, 794, 795, 796, 797, 798, 799, 800, 801, 802, 803, 804, 805, 806, 807, 808, 809, 810, 811, 812, 813, 814, 815, 816, 817, 818, 819, 820, 821, 822, 823, 824, 337, 338, 339, 340, 342, 343, 344, 345, 204, 205, 206, 207, 208, 209, 210, 211, 346, 347, 348, 349, 227, 228, 229, 230, 148, 231, 232, 233, 234, 350, 351, 352, 353, 354, 355, 356, 357, 366, 367, 368, 369, 370, 1261, 1262, 1263, 1264, 1265, 1266, 1267, 1268, 1269, 1270, 1271, 1272, 1273, 1274, 1275, 1276, 1277, 1278, 1279, 1280, 1281, 1282, 1283] (by decide +kernel) (by decide +kernel)
set_option maxRecDepth 20000 in
theorem gL_law_X9_live : GoodIn wsL_law (wsV RL 99 RX9 yX9_live wsX9_live) := goodIn_app (goodIn_of _ (by decide +kernel)) ggL_law_X9_live
set_option maxRecDepth 20000 in
theorem ggL_law_X8_soon : GoodIn wsL_law wsX8_soon := goodIn_r _ [888, 18, 164, 400, 300, 301, 302, 2, 303, 184, 185, 186, 187, 188, 189, 190, 191, 165, 192, 193, 194, 166, 167, 168, 169, 14, 170, 219, 220, 221, 47, 222, 77, 90, 1250, 1251, 1252, 1253, 1254, 1255, 1256, 1257, 1258, 1259, 1260, 1284, 1285, 1286, 1287, 1288, 1289, 1290, 1291, 1292, 1293, 1294, 1295, 1296, 1297, 1298, 1299, 1300, 1323, 1324, 1325] (by decide +kernel) (by decide +kernel)
set_option maxRecDepth 20000 in
theorem gL_law_X8_soon : GoodIn wsL_law (wsV RL 100 RX8 yX8_soon wsX8_soon) := goodIn_app (goodIn_of _ (by decide +kernel)) ggL_law_X8_soon
set_option maxRecDepth 20000 in
theorem ggL_law_X9_soon : GoodIn wsL_law wsX9_soon := goodIn_r _ [892, 275, 145, 342, 343, 344, 5, 345, 204, 205, 206, 207, 208, 209, 210, 211, 212, 213, 214, 175, 176, 177, 178, 147, 179, 227, 228, 229, 230, 148, 231, 232, 233, 234, 1261, 1262, 1263, 1264, 1265, 1266, 1267, 1268, 1269, 1270, 1271, 1272, 1273, 1274, 1275, 1276, 1277, 1278, 1279, 1280, 1281, 1282, 1283] (by decide +kernel) (by decide +kernel)
set_option maxRecDepth 20000 in
theorem gL_law_X9_soon : GoodIn wsL_law (wsV RL 103 RX9 yX9_soon wsX9_soon) := goodIn_app (goodIn_of _ (by decide +kernel)) ggL_law_X9_soon
set_option maxRecDepth 20000 in
theorem ggL_law_X8_odds : GoodIn wsL_law wsX8_odds := goodIn_r _ [896, 192, 193, 2, 194, 166, 167, 168, 169, 14, 170, 897, 898, 899, 900, 18, 280, 901, 902, 903, 904, 905, 906, 907, 908, 84, 909, 910, 911, 912, 1250, 1251, 1252, 1253, 1254, 1255, 1256, 1257, 1258, 1259, 1260, 1284, 1285, 1286, 1287, 1288, 1289, 1290, 1291, 1292, 1293, 1294, 1295, 1296, 1297, 1298, 1299, 1300] (by decide +kernel) (by decide +kernel)
set_option maxRecDepth 20000 in
theorem gL_law_X8_odds : GoodIn wsL_law (wsV RL 104 RX8 yX8_odds wsX8_odds) := goodIn_app (goodIn_of _ (by decide +kernel)) ggL_law_X8_odds
set_option maxRecDepth 20000 in
theorem ggL_law_X9_odds : GoodIn wsL_law wsX9_odds := goodIn_r _ [916, 917, 212, 213, 5, 214, 175, 176, 177, 178, 147, 179, 918, 919, 920, 921, 145, 922, 923, 924, 925, 926, 927, 928, 929, 930, 931, 1261, 1262, 1263, 1264, 1265, 1266, 1267, 1268, 1269, 1270, 1271, 1272, 1273, 1274, 1275, 1276, 1277, 1278, 1279, 1280, 1281, 1282, 1283] (by decide +kernel) (by decide +kernel)
set_option maxRecDepth 20000 in
theorem gL_law_X9_odds : GoodIn wsL_law (wsV RL 108 RX9 yX9_odds wsX9_odds) := goodIn_app (goodIn_of _ (by decide +kernel)) ggL_law_X9_odds
set_option maxRecDepth 20000 in
theorem ggL_law_X8_enough : GoodIn wsL_law wsX8_enough := goodIn_r _ [935, 936, 192, 193, 2, 194, 166, 167, 168, 169, 14, 170, 897, 898, 899, 900, 18, 280, 901, 902, 903, 904, 905, 906, 907, 908, 84, 909, 910, 911, 912, 1250, 1251, 1252, 1253, 1254, 1255, 1256, 1257, 1258, 1259, 1260, 1284, 1285, 1286, 1287, 1288, 1289, 1290, 1291, 1292, 1293, 1294, 1295, 1296, 1297, 1298, 1299, 1300] (by decide +kernel) (by decide +kernel)
set_option maxRecDepth 20000 in
theorem gL_law_X8_enough : GoodIn wsL_law (wsV RL 109 RX8 yX8_enough wsX8_enough) := goodIn_app (goodIn_of _ (by decide +kernel)) ggL_law_X8_enough
set_option maxRecDepth 20000 in
theorem ggL_law_X9_enough : GoodIn wsL_law wsX9_enough := goodIn_r _ [940, 917, 941, 212, 213, 5, 214, 175, 176, 177, 178, 147, 179, 918, 919, 920, 921, 145, 922, 923, 924, 925, 926, 927, 928, 1261, 1262, 1263, 1264, 1265, 1266, 1267, 1268, 1269, 1270, 1271, 1272, 1273, 1274, 1275, 1276, 1277, 1278, 1279, 1280, 1281, 1282, 1283] (by decide +kernel) (by decide +kernel)
set_option maxRecDepth 20000 in
theorem gL_law_X9_enough : GoodIn wsL_law (wsV RL 112 RX9 yX9_enough wsX9_enough) := goodIn_app (goodIn_of _ (by decide +kernel)) ggL_law_X9_enough
set_option maxRecDepth 20000 in
theorem ggL_law_X8_pays : GoodIn wsL_law wsX8_pays := goodIn_r _ [945, 18, 946, 192, 193, 2, 194, 166, 167, 168, 169, 14, 170, 947, 948, 949, 1250, 1251, 1252, 1253, 1254, 1255, 1256, 1257, 1258, 1259, 1260, 1284, 1285, 1286, 1287, 1288, 1289, 1290, 1291, 1292, 1293, 1294, 1295, 1296, 1297, 1298, 1299, 1300] (by decide +kernel) (by decide +kernel)
set_option maxRecDepth 20000 in
theorem gL_law_X8_pays : GoodIn wsL_law (wsV RL 113 RX8 yX8_pays wsX8_pays) := goodIn_app (goodIn_of _ (by decide +kernel)) ggL_law_X8_pays
set_option maxRecDepth 20000 in
theorem ggL_law_X9_pays : GoodIn wsL_law wsX9_pays := goodIn_r _ [953, 954, 273, 145, 212, 213, 5, 214, 175, 176, 177, 178, 147, 179, 1261, 1262, 1263, 1264, 1265, 1266, 1267, 1268, 1269, 1270, 1271, 1272, 1273, 1274, 1275, 1276, 1277, 1278, 1279, 1280, 1281, 1282, 1283] (by decide +kernel) (by decide +kernel)
set_option maxRecDepth 20000 in
theorem gL_law_X9_pays : GoodIn wsL_law (wsV RL 116 RX9 yX9_pays wsX9_pays) := goodIn_app (goodIn_of _ (by decide +kernel)) ggL_law_X9_pays
set_option maxRecDepth 20000 in
theorem ggL_law_X8_rest : GoodIn wsL_law wsX8_rest := goodIn_r _ [958, 304, 305, 2, 306, 192, 193, 194, 166, 167, 168, 169, 14, 170, 959, 960, 961, 962, 18, 946, 947, 948, 949, 1250, 1251, 1252, 1253, 1254, 1255, 1256, 1257, 1258, 1259, 1260, 1284, 1285, 1286, 1287, 1288, 1289, 1290, 1291, 1292, 1293, 1294, 1295, 1296, 1297, 1298, 1299, 1300] (by decide +kernel) (by decide +kernel)
set_option maxRecDepth 20000 in
theorem gL_law_X8_rest : GoodIn wsL_law (wsV RL 117 RX8 yX8_rest wsX8_rest) := goodIn_app (goodIn_of _ (by decide +kernel)) ggL_law_X8_rest
set_option maxRecDepth 20000 in
theorem ggL_law_X9_rest : GoodIn wsL_law wsX9_rest := goodIn_r _ [966, 346, 347, 5, 348, 349, 212, 213, 214, 175, 176, 177, 178, 147, 179, 967, 968, 969, 970, 145, 1261, 1262, 1263, 1264, 1265, 1266, 1267, 1268, 1269, 1270, 1271, 1272, 1273, 1274, 1275, 1276, 1277, 1278, 1279, 1280, 1281, 1282, 1283] (by decide +kernel) (by decide +kernel)
set_option maxRecDepth 20000 in
theorem gL_law_X9_rest : GoodIn wsL_law (wsV RL 120 RX9 yX9_rest wsX9_rest) := goodIn_app (goodIn_of _ (by decide +kernel)) ggL_law_X9_rest
set_option maxRecDepth 20000 in
theorem ggL_law_X8_answer : GoodIn wsL_law wsX8_answer := goodIn_r _ [974, 304, 305, 2, 306, 192, 193, 194, 166, 167, 168, 169, 14, 170, 959, 960, 961, 962, 18, 946, 947, 948, 949, 1250, 1251, 1252, 1253, 1254, 1255, 1256, 1257, 1258, 1259, 1260, 1284, 1285, 1286, 1287, 1288, 1289, 1290, 1291, 1292, 1293, 1294, 1295, 1296, 1297, 1298, 1299, 1300] (by decide +kernel) (by decide +kernel)
set_option maxRecDepth 20000 in
theorem gL_law_X8_answer : GoodIn wsL_law (wsV RL 121 RX8 yX8_answer wsX8_answer) := goodIn_app (goodIn_of _ (by decide +kernel)) ggL_law_X8_answer
set_option maxRecDepth 20000 in
theorem ggL_law_X9_answer : GoodIn wsL_law wsX9_answer := goodIn_r _ [978, 346, 347, 5, 348, 349, 212, 213, 214, 175, 176, 177, 178, 147, 179, 967, 968, 969, 970, 145, 1261, 1262, 1263, 1264, 1265, 1266, 1267, 1268, 1269, 1270, 1271, 1272, 1273, 1274, 1275, 1276, 1277, 1278, 1279, 1280, 1281, 1282, 1283] (by decide +kernel) (by decide +kernel)
set_option maxRecDepth 20000 in
theorem gL_law_X9_answer : GoodIn wsL_law (wsV RL 124 RX9 yX9_answer wsX9_answer) := goodIn_app (goodIn_of _ (by decide +kernel)) ggL_law_X9_answer
set_option maxRecDepth 20000 in
theorem ggL_law_X8_work : GoodIn wsL_law wsX8_work := goodIn_r _ [982, 18, 983, 984, 985, 192, 193, 2, 194, 166, 167, 168, 169, 14, 170, 1250, 1251, 1252, 1253, 1254, 1255, 1256, 1257, 1258, 1259, 1260, 1284, 1285, 1286, 1287, 1288, 1289, 1290, 1291, 1292, 1293, 1294, 1295, 1296, 1297, 1298, 1299, 1300] (by decide +kernel) (by decide +kernel)
set_option maxRecDepth 20000 in
theorem gL_law_X8_work : GoodIn wsL_law (wsV RL 125 RX8 yX8_work wsX8_work) := goodIn_app (goodIn_of _ (by decide +kernel)) ggL_law_X8_work
set_option maxRecDepth 20000 in
theorem ggL_law_X9_work : GoodIn wsL_law wsX9_work := goodIn_r _ [989, 990, 145, 212, 213, 5, 214, 175, 176, 177, 178, 147, 179, 1261, 1262, 1263, 1264, 1265, 1266, 1267, 1268, 1269, 1270, 1271, 1272, 1273, 1274, 1275, 1276, 1277, 1278, 1279, 1280, 1281, 1282, 1283] (by decide +kernel) (by decide +kernel)
set_option maxRecDepth 20000 in
theorem gL_law_X9_work : GoodIn wsL_law (wsV RL 128 RX9 yX9_work wsX9_work) := goodIn_app (goodIn_of _ (by decide +kernel)) ggL_law_X9_work
set_option maxRecDepth 20000 in
theorem ggL_law_X8_blind : GoodIn wsL_law wsX8_blind := goodIn_r _ [994, 18, 983, 192, 193, 2, 194, 281, 282, 283, 166, 167, 168, 169, 14, 170, 995, 996, 997, 998, 985, 984, 1250, 1251, 1252, 1253, 1254, 1255, 1256, 1257, 1258, 1259, 1260, 1284, 1285, 1286, 1287, 1288, 1289, 1290, 1291, 1292, 1293, 1294, 1295, 1296, 1297, 1298, 1299, 1300] (by decide +kernel) (by decide +kernel)
set_option maxRecDepth 20000 in
theorem gL_law_X8_blind : GoodIn wsL_law (wsV RL 129 RX8 yX8_blind wsX8_blind) := goodIn_app (goodIn_of _ (by decide +kernel)) ggL_law_X8_blind
set_option maxRecDepth 20000 in
theorem ggL_law_X9_blind : GoodIn wsL_law wsX9_blind := goodIn_r _ [1002, 1003, 1004, 1005, 5, 1006, 145, 212, 213, 214, 288, 289, 290, 275, 175, 176, 177, 178, 147, 179, 1007, 1008, 1009, 1010, 1261, 1262, 1263, 1264, 1265, 1266, 1267, 1268, 1269, 1270, 1271, 1272, 1273, 1274, 1275, 1276, 1277, 1278, 1279, 1280, 1281, 1282, 1283] (by decide +kernel) (by decide +kernel)
set_option maxRecDepth 20000 in
theorem gL_law_X9_blind : GoodIn wsL_law (wsV RL 132 RX9 yX9_blind wsX9_blind) := goodIn_app (goodIn_of _ (by decide +kernel)) ggL_law_X9_blind
set_option maxRecDepth 20000 in
theorem ggL_law_X8_edge : GoodIn wsL_law wsX8_edge := goodIn_r _ [1014, 18, 983, 192, 193, 2, 194, 166, 167, 168, 169, 14, 170, 995, 996, 997, 998, 985, 984, 1250, 1251, 1252, 1253, 1254, 1255, 1256, 1257, 1258, 1259, 1260, 1284, 1285, 1286, 1287, 1288, 1289, 1290, 1291, 1292, 1293, 1294, 1295, 1296, 1297, 1298, 1299, 1300] (by decide +kernel) (by decide +kernel)
set_option maxRecDepth 20000 in
theorem gL_law_X8_edge : GoodIn wsL_law (wsV RL 133 RX8 yX8_edge wsX8_edge) := goodIn_app (goodIn_of _ (by decide +kernel)) ggL_law_X8_edge
set_option maxRecDepth 20000 in
theorem ggL_law_X9_edge : GoodIn wsL_law wsX9_edge := goodIn_r _ [1018, 275, 1003, 1004, 1005, 5, 1006, 145, 212, 213, 214, 175, 176, 177, 178, 147, 179, 1007, 1008, 1009, 1010, 1261, 1262, 1263, 1264, 1265, 1266, 1267, 1268, 1269, 1270, 1271, 1272, 1273, 1274, 1275, 1276, 1277, 1278, 1279, 1280, 1281, 1282, 1283] (by decide +kernel) (by decide +kernel)
set_option maxRecDepth 20000 in
theorem gL_law_X9_edge : GoodIn wsL_law (wsV RL 136 RX9 yX9_edge wsX9_edge) := goodIn_app (goodIn_of _ (by decide +kernel)) ggL_law_X9_edge
set_option maxRecDepth 20000 in
theorem ggL_law_X8_minds : GoodIn wsL_law wsX8_minds := goodIn_r _ [1022, 18, 630, 192, 193, 2, 194, 166, 167, 168, 169, 14, 170, 1023, 1024, 1025, 1026, 31, 32, 829, 830, 831, 832, 833, 834, 835, 70, 836, 109, 108, 837, 838, 839, 840, 841, 842, 1250, 1251, 1252, 1253, 1254, 1255, 1256, 1257, 1258, 1259, 1260, 1284, 1285, 1286, 1287, 1288, 1289, 1290, 1291, 1292, 1293, 1294, 1295, 1296, 1297, 1298, 1299, 1300, 1337, 1338] (by decide +kernel) (by decide +kernel)
set_option maxRecDepth 20000 in
theorem gL_law_X8_minds : GoodIn wsL_law (wsV RL 137 RX8 yX8_minds wsX8_minds) := goodIn_app (goodIn_of _ (by decide +kernel)) ggL_law_X8_minds
set_option maxRecDepth 20000 in
theorem ggL_law_X9_minds : GoodIn wsL_law wsX9_minds := goodIn_r _ [1030, 212, 213, 5, 214, 175, 176, 177, 178, 147, 179, 1031, 1032, 1033, 1034, 1035, 1036, 1037, 1038, 154, 847, 848, 849, 850, 145, 774, 775, 776, 777, 778, 779, 780, 770, 781, 782, 783, 784, 785, 786, 787, 788, 789, 790, 791, 792, 793, 794, 795, 796, 797, 798, 799, 800, 801, 802, 803, 804, 805, 806, 807, 808, 809, 810, 811, 812, 813, 814, 815, 816, 817, 818, 819, 820, 821, 822, 823, 824, 1261, 1262, 1263, 1264, 1265, 1266, 1267, 1268, 1269, 1270, 1271, 1272, 1273, 1274, 1275, 1276, 1277, 1278, 1279, 1280, 1281, 1282, 1283] (by decide +kernel) (by decide +kernel)
set_option maxRecDepth 20000 in
theorem gL_law_X9_minds : GoodIn wsL_law (wsV RL 140 RX9 yX9_minds wsX9_minds) := goodIn_app (goodIn_of _ (by decide +kernel)) ggL_law_X9_minds
set_option maxRecDepth 20000 in
theorem ggL_law_X8_heirs : GoodIn wsL_law wsX8_heirs := goodIn_r _ [1042, 1043, 192, 193, 2, 194, 281, 282, 283, 166, 167, 168, 169, 14, 170, 901, 902, 903, 904, 905, 906, 907, 908, 84, 909, 910, 911, 912, 1250, 1251, 1252, 1253, 1254, 1255, 1256, 1257, 1258, 1259, 1260] (by decide +kernel) (by decide +kernel)
set_option maxRecDepth 20000 in
theorem gL_law_X8_heirs : GoodIn wsL_law (wsV RL 141 RX8 yX8_heirs wsX8_heirs) := goodIn_app (goodIn_of _ (by decide +kernel)) ggL_law_X8_heirs
set_option maxRecDepth 20000 in
theorem ggL_law_X9_heirs : GoodIn wsL_law wsX9_heirs := goodIn_r _ [1047, 624, 212, 213, 5, 214, 288, 289, 290, 275, 175, 176, 177, 178, 147, 179, 929, 930, 931, 1261, 1262, 1263, 1264, 1265, 1266, 1267, 1268, 1269, 1270, 1271, 1272, 1273, 1274, 1275, 1276, 1277, 1278, 1279, 1280, 1281, 1282, 1283] (by decide +kernel) (by decide +kernel)
set_option maxRecDepth 20000 in
theorem gL_law_X9_heirs : GoodIn wsL_law (wsV RL 144 RX9 yX9_heirs wsX9_heirs) := goodIn_app (goodIn_of _ (by decide +kernel)) ggL_law_X9_heirs
set_option maxRecDepth 20000 in
theorem ggL_law_X8_goods : GoodIn wsL_law wsX8_goods := goodIn_r _ [1051, 1052, 18, 164, 268, 300, 301, 302, 2, 303, 184, 185, 186, 187, 188, 189, 190, 191, 165, 192, 193, 194, 166, 167, 168, 169, 14, 170, 219, 220, 221, 47, 222, 77, 90, 1250, 1251, 1252, 1253, 1254, 1255, 1256, 1257, 1258, 1259, 1260, 1284, 1285, 1286, 1287, 1288, 1289, 1290, 1291, 1292, 1293, 1294, 1295, 1296, 1297, 1298, 1299, 1300, 1323, 1324, 1325] (by decide +kernel) (by decide +kernel)
set_option maxRecDepth 20000 in
theorem gL_law_X8_goods : GoodIn wsL_law (wsV RL 145 RX8 yX8_goods wsX8_goods) := goodIn_app (goodIn_of _ (by decide +kernel)) ggL_law_X8_goods
set_option maxRecDepth 20000 in
theorem ggL_law_X9_goods : GoodIn wsL_law wsX9_goods := goodIn_r _ [1056, 1057, 273, 145, 342, 343, 344, 5, 345, 204, 205, 206, 207, 208, 209, 210, 211, 212, 213, 214, 175, 176, 177, 178, 147, 179, 227, 228, 229, 230, 148, 231, 232, 233, 234, 1261, 1262, 1263, 1264, 1265, 1266, 1267, 1268, 1269, 1270, 1271, 1272, 1273, 1274, 1275, 1276, 1277, 1278, 1279, 1280, 1281, 1282, 1283] (by decide +kernel) (by decide +kernel)
set_option maxRecDepth 20000 in
theorem gL_law_X9_goods : GoodIn wsL_law (wsV RL 148 RX9 yX9_goods wsX9_goods) := goodIn_app (goodIn_of _ (by decide +kernel)) ggL_law_X9_goods
set_option maxRecDepth 20000 in
theorem ggL_law_X8_seed : GoodIn wsL_law wsX8_seed := goodIn_r _ [1061, 18, 1062, 1250, 1251, 1252, 1253, 1254, 1255, 1256, 1257, 1258, 1259, 1260, 1284, 1285, 1286, 1287, 1288, 1289, 1290, 1291, 1292, 1293, 1294, 1295, 1296, 1297, 1298, 1299, 1300] (by decide +kernel) (by decide +kernel)
set_option maxRecDepth 20000 in
theorem gL_law_X8_seed : GoodIn wsL_law (wsV RL 149 RX8 yX8_seed wsX8_seed) := goodIn_app (goodIn_of _ (by decide +kernel)) ggL_law_X8_seed
set_option maxRecDepth 20000 in
theorem ggL_law_X9_seed : GoodIn wsL_law wsX9_seed := goodIn_r _ [1066, 145, 1261, 1262, 1263, 1264, 1265, 1266, 1267, 1268, 1269, 1270, 1271, 1272, 1273, 1274, 1275, 1276, 1277, 1278, 1279, 1280, 1281, 1282, 1283] (by decide +kernel) (by decide +kernel)
set_option maxRecDepth 20000 in
theorem gL_law_X9_seed : GoodIn wsL_law (wsV RL 152 RX9 yX9_seed wsX9_seed) := goodIn_app (goodIn_of _ (by decide +kernel)) ggL_law_X9_seed
set_option maxRecDepth 20000 in
theorem ggL_law_X8_voice : GoodIn wsL_law wsX8_voice := goodIn_r _ [1070, 18, 24, 36, 375, 381, 383, 384, 385, 2, 386, 299, 192, 193, 194, 166, 167, 168, 169, 14, 170, 1071, 1072, 1073, 35, 1074, 132, 133, 134, 131, 1075, 1076, 1077, 1078, 130, 1079, 1080, 1081, 1082, 1083, 1084, 1085, 1086, 1087, 1250, 1251, 1252, 1253, 1254, 1255, 1256, 1257, 1258, 1259, 1260, 1284, 1285, 1286, 1287, 1288, 1289, 1290, 1291, 1292, 1293, 1294, 1295, 1296, 1297, 1298, 1299, 1300, 1326, 1327, 1328, 1329, 1330, 1331, 1332, 1333, 1334, 1335, 1336, 1315, 1316, 1317, 1318, 1319] (by decide +kernel) (by decide +kernel)
set_option maxRecDepth 20000 in
theorem gL_law_X8_voice : GoodIn wsL_law (wsV RL 153 RX8 yX8_voice wsX8_voice) := goodIn_app (goodIn_of _ (by decide +kernel)) ggL_law_X8_voice
set_option maxRecDepth 20000 in
theorem ggL_law_X9_voice : GoodIn wsL_law wsX9_voice := goodIn_r _ [1091, 349, 1092, 1093, 392, 393, 394, 5, 395, 145, 212, 213, 214, 175, 176, 177, 178, 147, 179, 1094, 1095, 1096, 1097, 362, 363, 364, 365, 1098, 1099, 1100, 1101, 1102, 1103, 1104, 1105, 155, 1106, 1107, 1108, 1109, 1110, 1111, 1112, 1113, 1114, 1115, 1116, 1117, 1118, 1119, 1120, 1261, 1262, 1263, 1264, 1265, 1266, 1267, 1268, 1269, 1270, 1271, 1272, 1273, 1274, 1275, 1276, 1277, 1278, 1279, 1280, 1281, 1282, 1283] (by decide +kernel) (by decide +kernel)
set_option maxRecDepth 20000 in
theorem gL_law_X9_voice : GoodIn wsL_law (wsV RL 156 RX9 yX9_voice wsX9_voice) := goodIn_app (goodIn_of _ (by decide +kernel)) ggL_law_X9_voice
set_option maxRecDepth 20000 in
theorem ggL_law_X8_trace : GoodIn wsL_law wsX8_trace := goodIn_r _ [1124, 36, 1125, 1126, 192, 193, 2, 194, 166, 167, 168, 169, 14, 170, 1250, 1251, 1252, 1253, 1254, 1255, 1256, 1257, 1258, 1259, 1260, 1315, 1316, 1317, 1318, 1319] (by decide +kernel) (by decide +kernel)
set_option maxRecDepth 20000 in
theorem gL_law_X8_trace : GoodIn wsL_law (wsV RL 157 RX8 yX8_trace wsX8_trace) := goodIn_app (goodIn_of _ (by decide +kernel)) ggL_law_X8_trace
set_option maxRecDepth 20000 in
theorem ggL_law_X9_trace : GoodIn wsL_law wsX9_trace := goodIn_r _ [1130, 1092, 155, 212, 213, 5, 214, 175, 176, 177, 178, 147, 179, 1261, 1262, 1263, 1264, 1265, 1266, 1267, 1268, 1269, 1270, 1271, 1272, 1273, 1274, 1275, 1276, 1277, 1278, 1279, 1280, 1281, 1282, 1283] (by decide +kernel) (by decide +kernel)
set_option maxRecDepth 20000 in
theorem gL_law_X9_trace : GoodIn wsL_law (wsV RL 160 RX9 yX9_trace wsX9_trace) := goodIn_app (goodIn_of _ (by decide +kernel)) ggL_law_X9_trace
set_option maxRecDepth 20000 in
theorem ggL_law_X8_sheet : GoodIn wsL_law wsX8_sheet := goodIn_r _ [1134, 38, 431, 432, 2, 433, 192, 193, 194, 166, 167, 168, 169, 14, 170, 1135, 1136, 1137, 40, 1138, 138, 139, 140, 1139, 111, 112, 113, 1250, 1251, 1252, 1253, 1254, 1255, 1256, 1257, 1258, 1259, 1260, 1320, 1321, 1322] (by decide +kernel) (by decide +kernel)
set_option maxRecDepth 20000 in
theorem gL_law_X8_sheet : GoodIn wsL_law (wsV RL 161 RX8 yX8_sheet wsX8_sheet) := goodIn_app (goodIn_of _ (by decide +kernel)) ggL_law_X8_sheet
set_option maxRecDepth 20000 in
theorem ggL_law_X9_sheet : GoodIn wsL_law wsX9_sheet := goodIn_r _ [1143, 156, 157, 158, 438, 439, 5, 440, 349, 212, 213, 214, 175, 176, 177, 178, 147, 179, 1261, 1262, 1263, 1264, 1265, 1266, 1267, 1268, 1269, 1270, 1271, 1272, 1273, 1274, 1275, 1276, 1277, 1278, 1279, 1280, 1281, 1282, 1283] (by decide +kernel) (by decide +kernel)
set_option maxRecDepth 20000 in
theorem gL_law_X9_sheet : GoodIn wsL_law (wsV RL 164 RX9 yX9_sheet wsX9_sheet) := goodIn_app (goodIn_of _ (by decide +kernel)) ggL_law_X9_sheet
set_option maxRecDepth 20000 in
theorem ggL_law_X8_put : GoodIn wsL_law wsX8_put := goodIn_r _ [1147, 38, 428, 429, 430, 431, 432, 2, 433, 192, 193, 194, 166, 167, 168, 169, 14, 170, 1148, 1149, 1150, 40, 1151, 138, 1250, 1251, 1252, 1253, 1254, 1255, 1256, 1257, 1258, 1259, 1260, 1320, 1321, 1322] (by decide +kernel) (by decide +kernel)
set_option maxRecDepth 20000 in
theorem gL_law_X8_put : GoodIn wsL_law (wsV RL 165 RX8 yX8_put wsX8_put) := goodIn_app (goodIn_of _ (by decide +kernel)) ggL_law_X8_put
set_option maxRecDepth 20000 in
theorem ggL_law_X9_put : GoodIn wsL_law wsX9_put := goodIn_r _ [1155, 156, 157, 158, 438, 439, 5, 440, 349, 212, 213, 214, 175, 176, 177, 178, 147, 179, 1261, 1262, 1263, 1264, 1265, 1266, 1267, 1268, 1269, 1270, 1271, 1272, 1273, 1274, 1275, 1276, 1277, 1278, 1279, 1280, 1281, 1282, 1283] (by decide +kernel) (by decide +kernel)
set_option maxRecDepth 20000 in
theorem gL_law_X9_put : GoodIn wsL_law (wsV RL 168 RX9 yX9_put wsX9_put) := goodIn_app (goodIn_of _ (by decide +kernel)) ggL_law_X9_put
set_option maxRecDepth 20000 in
theorem ggL_law_X8_move : GoodIn wsL_law wsX8_move := goodIn_r _ [1159, 38, 428, 430, 1160, 763, 764, 765, 431, 432, 2, 433, 192, 193, 194, 166, 167, 168, 169, 14, 170, 1161, 1162, 1163, 40, 1164, 139, 1250, 1251, 1252, 1253, 1254, 1255, 1256, 1257, 1258, 1259, 1260, 1320, 1321, 1322] (by decide +kernel) (by decide +kernel)
set_option maxRecDepth 20000 in
theorem gL_law_X8_move : GoodIn wsL_law (wsV RL 169 RX8 yX8_move wsX8_move) := goodIn_app (goodIn_of _ (by decide +kernel)) ggL_law_X8_move
set_option maxRecDepth 20000 in
theorem ggL_law_X9_move : GoodIn wsL_law wsX9_move := goodIn_r _ [1168, 156, 157, 159, 158, 438, 439, 5, 440, 349, 212, 213, 214, 175, 176, 177, 178, 147, 179, 1261, 1262, 1263, 1264, 1265, 1266, 1267, 1268, 1269, 1270, 1271, 1272, 1273, 1274, 1275, 1276, 1277, 1278, 1279, 1280, 1281, 1282, 1283] (by decide +kernel) (by decide +kernel)
set_option maxRecDepth 20000 in
theorem gL_law_X9_move : GoodIn wsL_law (wsV RL 173 RX9 yX9_move wsX9_move) := goodIn_app (goodIn_of _ (by decide +kernel)) ggL_law_X9_move
set_option maxRecDepth 20000 in
theorem ggL_law_X8_image : GoodIn wsL_law wsX8_image := goodIn_r _ [1172, 19, 18, 20, 1173, 1174, 1175, 17, 1176, 48, 52, 54, 1177, 1178, 55, 1179, 763, 764, 765, 56, 57, 58, 59, 60, 61, 62, 63, 64, 65, 66, 67, 68, 1180, 1181, 1182, 47, 1183, 75, 76, 1184, 77, 1185, 1186, 1187, 51, 1188, 94, 103, 95, 1189, 96, 97, 98, 99, 100, 101, 102, 104, 1190, 759, 760, 70, 761, 108, 762, 109, 1250, 1251, 1252, 1253, 1254, 1255, 1256, 1257, 1258, 1259, 1260, 1284, 1285, 1286, 1287, 1288, 1289, 1290, 1291, 1292, 1293, 1294, 1295, 1296, 1297, 1298, 1299, 1300, 1337, 1338, 1323, 1324, 1325, 1326, 1327, 1328, 1329, 1330, 1331, 1332, 1333, 1334, 1335, 1336] (by decide +kernel) (by decide +kernel)
set_option maxRecDepth 20000 in
theorem gL_law_X8_image : GoodIn wsL_law (wsV RL 174 RX8 yX8_image wsX8_image) := goodIn_app (goodIn_of _ (by decide +kernel)) ggL_law_X8_image
set_option maxRecDepth 20000 in
theorem ggL_law_X9_image : GoodIn wsL_law wsX9_image := goodIn_r _ [1194, 146, 145, 1195, 1261, 1262, 1263, 1264, 1265, 1266, 1267, 1268, 1269, 1270, 1271, 1272, 1273, 1274, 1275, 1276, 1277, 1278, 1279, 1280, 1281, 1282, 1283] (by decide +kernel) (by decide +kernel)
set_option maxRecDepth 20000 in
theorem gL_law_X9_image : GoodIn wsL_law (wsV RL 177 RX9 yX9_image wsX9_image) := goodIn_app (goodIn_of _ (by decide +kernel)) ggL_law_X9_image
set_option maxRecDepth 20000 in
theorem ggL_law_X8_restore : GoodIn wsL_law wsX8_restore := goodIn_r _ [1199, 20, 18, 19, 400, 166, 167, 168, 2, 169, 14, 170, 1173, 1174, 1175, 17, 1176, 48, 52, 54, 1177, 1178, 55, 1179, 763, 764, 765, 56, 57, 58, 59, 60, 61, 62, 63, 64, 65, 66, 67, 68, 1180, 1181, 1182, 47, 1183, 75, 76, 1184, 77, 1185, 1186, 1187, 51, 1188, 94, 103, 95, 1189, 96, 97, 98, 99, 100, 101, 102, 104, 1190, 759, 760, 70, 761, 108, 762, 109, 1250, 1251, 1252, 1253, 1254, 1255, 1256, 1257, 1258, 1259, 1260, 1284, 1285, 1286, 1287, 1288, 1289, 1290, 1291, 1292, 1293, 1294, 1295, 1296, 1297, 1298, 1299, 1300, 1337, 1338, 1323, 1324, 1325, 1326, 1327, 1328, 1329, 1330, 1331, 1332, 1333, 1334, 1335, 1336] (by decide +kernel) (by decide +kernel)
set_option maxRecDepth 20000 in
theorem gL_law_X8_restore : GoodIn wsL_law (wsV RL 178 RX8 yX8_restore wsX8_restore) := goodIn_app (goodIn_of _ (by decide +kernel)) ggL_law_X8_restore
set_option maxRecDepth 20000 in
theorem ggL_law_X9_restore : GoodIn wsL_law wsX9_restore := goodIn_r _ [1203, 1195, 145, 146, 175, 176, 177, 5, 178, 147, 179, 1261, 1262, 1263, 1264, 1265, 1266, 1267, 1268, 1269, 1270, 1271, 1272, 1273, 1274, 1275, 1276, 1277, 1278, 1279, 1280, 1281, 1282, 1283] (by decide +kernel) (by decide +kernel)
set_option maxRecDepth 20000 in
theorem gL_law_X9_restore : GoodIn wsL_law (wsV RL 181 RX9 yX9_restore wsX9_restore) := goodIn_app (goodIn_of _ (by decide +kernel)) ggL_law_X9_restore
set_option maxRecDepth 20000 in
theorem ggL_law_X8_tell : GoodIn wsL_law wsX8_tell := goodIn_r _ [1207, 18, 1208, 1209, 166, 167, 168, 2, 169, 14, 170, 1250, 1251, 1252, 1253, 1254, 1255, 1256, 1257, 1258, 1259, 1260, 1284, 1285, 1286, 1287, 1288, 1289, 1290, 1291, 1292, 1293, 1294, 1295, 1296, 1297, 1298, 1299, 1300] (by decide +kernel) (by decide +kernel)
set_option maxRecDepth 20000 in
theorem gL_law_X8_tell : GoodIn wsL_law (wsV RL 182 RX8 yX8_tell wsX8_tell) := goodIn_app (goodIn_of _ (by decide +kernel)) ggL_law_X8_tell
set_option maxRecDepth 20000 in
theorem ggL_law_X9_tell : GoodIn wsL_law wsX9_tell := goodIn_r _ [1213, 145, 175, 176, 177, 5, 178, 147, 179, 1261, 1262, 1263, 1264, 1265, 1266, 1267, 1268, 1269, 1270, 1271, 1272, 1273, 1274, 1275, 1276, 1277, 1278, 1279, 1280, 1281, 1282, 1283] (by decide +kernel) (by decide +kernel)
set_option maxRecDepth 20000 in
theorem gL_law_X9_tell : GoodIn wsL_law (wsV RL 185 RX9 yX9_tell wsX9_tell) := goodIn_app (goodIn_of _ (by decide +kernel)) ggL_law_X9_tell
set_option maxRecDepth 20000 in
theorem ggL_law_X8_check : GoodIn wsL_law wsX8_check := goodIn_r _ [1217, 18, 1208, 188, 189, 190, 2, 191, 164, 165, 192, 193, 194, 304, 305, 306, 166, 167, 168, 169, 14, 170, 1218, 1219, 1220, 1221, 24, 1222, 1223, 380, 400, 1209, 1224, 326, 327, 51, 328, 97, 98, 1250, 1251, 1252, 1253, 1254, 1255, 1256, 1257, 1258, 1259, 1260, 1284, 1285, 1286, 1287, 1288, 1289, 1290, 1291, 1292, 1293, 1294, 1295, 1296, 1297, 1298, 1299, 1300, 1323, 1324, 1325, 1326, 1327, 1328, 1329, 1330, 1331, 1332, 1333, 1334, 1335, 1336] (by decide +kernel) (by decide +kernel)
set_option maxRecDepth 20000 in
theorem gL_law_X8_check : GoodIn wsL_law (wsV RL 186 RX8 yX8_check wsX8_check) := goodIn_app (goodIn_of _ (by decide +kernel)) ggL_law_X8_check
set_option maxRecDepth 20000 in
theorem ggL_law_X9_check : GoodIn wsL_law wsX9_check := goodIn_r _ [1228, 145, 208, 209, 210, 5, 211, 212, 213, 214, 346, 347, 348, 349, 175, 176, 177, 178, 147, 179, 358, 359, 360, 361, 362, 363, 364, 365, 1261, 1262, 1263, 1264, 1265, 1266, 1267, 1268, 1269, 1270, 1271, 1272, 1273, 1274, 1275, 1276, 1277, 1278, 1279, 1280, 1281, 1282, 1283] (by decide +kernel) (by decide +kernel)
set_option maxRecDepth 20000 in
theorem gL_law_X9_check : GoodIn wsL_law (wsV RL 189 RX9 yX9_check wsX9_check) := goodIn_app (goodIn_of _ (by decide +kernel)) ggL_law_X9_check
set_option maxRecDepth 20000 in
theorem ggL_law_X8_count : GoodIn wsL_law wsX8_count := goodIn_r _ [1232, 18, 400, 164, 165, 24, 299, 1222, 983, 618, 1208, 36, 1125, 1062, 166, 167, 168, 2, 169, 14, 170, 1250, 1251, 1252, 1253, 1254, 1255, 1256, 1257, 1258, 1259, 1260, 1284, 1285, 1286, 1287, 1288, 1289, 1290, 1291, 1292, 1293, 1294, 1295, 1296, 1297, 1298, 1299, 1300, 1323, 1324, 1325, 1326, 1327, 1328, 1329, 1330, 1331, 1332, 1333, 1334, 1335, 1336, 1315, 1316, 1317, 1318, 1319] (by decide +kernel) (by decide +kernel)
set_option maxRecDepth 20000 in
theorem gL_law_X8_count : GoodIn wsL_law (wsV RL 190 RX8 yX8_count wsX8_count) := goodIn_app (goodIn_of _ (by decide +kernel)) ggL_law_X8_count
set_option maxRecDepth 20000 in
theorem ggL_law_X9_count : GoodIn wsL_law wsX9_count := goodIn_r _ [1236, 145, 1092, 1237, 1238, 1239, 5, 1240, 362, 363, 364, 365, 175, 176, 177, 178, 147, 179, 1261, 1262, 1263, 1264, 1265, 1266, 1267, 1268, 1269, 1270, 1271, 1272, 1273, 1274, 1275, 1276, 1277, 1278, 1279, 1280, 1281, 1282, 1283] (by decide +kernel) (by decide +kernel)
set_option maxRecDepth 20000 in
theorem gL_law_X9_count : GoodIn wsL_law (wsV RL 193 RX9 yX9_count wsX9_count) := goodIn_app (goodIn_of _ (by decide +kernel)) ggL_law_X9_count
set_option maxRecDepth 20000 in
theorem ggL_law_X8_told : GoodIn wsL_law wsX8_told := goodIn_r _ [1244, 14, 192, 193, 2, 194, 166, 167, 168, 169, 170, 1250, 1251, 1252, 1253, 1254, 1255, 1256, 1257, 1258, 1259, 1260] (by decide +kernel) (by decide +kernel)
set_option maxRecDepth 20000 in
theorem gL_law_X8_told : GoodIn wsL_law (wsV RL 194 RX8 yX8_told wsX8_told) := goodIn_app (goodIn_of _ (by decide +kernel)) ggL_law_X8_told
set_option maxRecDepth 20000 in
theorem ggL_law_X9_told : GoodIn wsL_law wsX9_told := goodIn_r _ [1248, 1249, 147, 212, 213, 5, 214, 175, 176, 177, 178, 179, 1261, 1262, 1263, 1264, 1265, 1266, 1267, 1268, 1269, 1270, 1271, 1272, 1273, 1274, 1275, 1276, 1277, 1278, 1279, 1280, 1281, 1282, 1283] (by decide +kernel) (by decide +kernel)
set_option maxRecDepth 20000 in
theorem gL_law_X9_told : GoodIn wsL_law (wsV RL 197 RX9 yX9_told wsX9_told) := goodIn_app (goodIn_of _ (by decide +kernel)) ggL_law_X9_told
theorem dL_law_0 : decode cL_law 0 = .ok (.new 7, 3) := by decide +kernel
theorem dL_law_3 : decode cL_law 3 = .ok (.dup, 1) := by decide +kernel
theorem dL_law_4 : decode cL_law 4 = .ok (.invokespecial 9, 3) := by decide +kernel
theorem dL_law_7 : decode cL_law 7 = .ok (.astore_n 1, 1) := by decide +kernel
theorem dL_law_8 : decode cL_law 8 = .ok (.new 10, 3) := by decide +kernel
theorem dL_law_11 : decode cL_law 11 = .ok (.dup, 1) := by decide +kernel
theorem dL_law_12 : decode cL_law 12 = .ok (.invokespecial 12, 3) := by decide +kernel
theorem dL_law_15 : decode cL_law 15 = .ok (.astore_n 2, 1) := by decide +kernel
theorem dL_law_16 : decode cL_law 16 = .ok (.iconst 0, 1) := by decide +kernel
theorem dL_law_17 : decode cL_law 17 = .ok (.istore_n 3, 1) := by decide +kernel
theorem dL_law_18 : decode cL_law 18 = .ok (.iload_n 3, 1) := by decide +kernel
theorem dL_law_19 : decode cL_law 19 = .ok (.aload_n 0, 1) := by decide +kernel
theorem dL_law_20 : decode cL_law 20 = .ok (.arraylength, 1) := by decide +kernel
theorem dL_law_21 : decode cL_law 21 = .ok (.bipush 6, 2) := by decide +kernel
theorem dL_law_23 : decode cL_law 23 = .ok (.isub, 1) := by decide +kernel
theorem dL_law_24 : decode cL_law 24 = .ok (.if_icmp .gt 1710, 3) := by decide +kernel
theorem dL_law_27 : decode cL_law 27 = .ok (.aload_n 0, 1) := by decide +kernel
theorem dL_law_28 : decode cL_law 28 = .ok (.iload_n 3, 1) := by decide +kernel
theorem dL_law_29 : decode cL_law 29 = .ok (.iaload, 1) := by decide +kernel
theorem dL_law_30 : decode cL_law 30 = .ok (.bipush 63, 2) := by decide +kernel
theorem dL_law_32 : decode cL_law 32 = .ok (.iand, 1) := by decide +kernel
theorem dL_law_33 : decode cL_law 33 = .ok (.tableswitch 1695 0 43 #[191, 204, 247, 280, 323, 356, 379, 422, 455, 478, 511, 534, 577, 620, 663, 706, 769, 792, 835, 868, 891, 934, 978, 1011, 1044, 1067, 1110, 1143, 1176, 1209, 1242, 1286, 1329, 1352, 1395, 1418, 1461, 1504, 1567, 1580, 1593, 1616, 1649, 1672], 191) := by decide +kernel
theorem dL_law_224 : decode cL_law 224 = .ok (.aload_n 1, 1) := by decide +kernel
theorem dL_law_225 : decode cL_law 225 = .ok (.invokevirtual 13, 3) := by decide +kernel
theorem dL_law_228 : decode cL_law 228 = .ok (.aload_n 2, 1) := by decide +kernel
theorem dL_law_229 : decode cL_law 229 = .ok (.invokevirtual 17, 3) := by decide +kernel
theorem dL_law_232 : decode cL_law 232 = .ok (.if_icmp .eq 1496, 3) := by decide +kernel
theorem dL_law_235 : decode cL_law 235 = .ok (.iconst 0, 1) := by decide +kernel
theorem dL_law_236 : decode cL_law 236 = .ok (.ireturn, 1) := by decide +kernel
theorem dL_law_237 : decode cL_law 237 = .ok (.aload_n 1, 1) := by decide +kernel
theorem dL_law_238 : decode cL_law 238 = .ok (.aload_n 0, 1) := by decide +kernel
theorem dL_law_239 : decode cL_law 239 = .ok (.iload_n 3, 1) := by decide +kernel
theorem dL_law_240 : decode cL_law 240 = .ok (.iconst 1, 1) := by decide +kernel
theorem dL_law_241 : decode cL_law 241 = .ok (.iadd, 1) := by decide +kernel
theorem dL_law_242 : decode cL_law 242 = .ok (.iaload, 1) := by decide +kernel
theorem dL_law_243 : decode cL_law 243 = .ok (.aload_n 0, 1) := by decide +kernel
theorem dL_law_244 : decode cL_law 244 = .ok (.iload_n 3, 1) := by decide +kernel
theorem dL_law_245 : decode cL_law 245 = .ok (.iconst 2, 1) := by decide +kernel
theorem dL_law_246 : decode cL_law 246 = .ok (.iadd, 1) := by decide +kernel
theorem dL_law_247 : decode cL_law 247 = .ok (.iaload, 1) := by decide +kernel
theorem dL_law_248 : decode cL_law 248 = .ok (.aload_n 0, 1) := by decide +kernel
theorem dL_law_249 : decode cL_law 249 = .ok (.iload_n 3, 1) := by decide +kernel
theorem dL_law_250 : decode cL_law 250 = .ok (.iconst 3, 1) := by decide +kernel
theorem dL_law_251 : decode cL_law 251 = .ok (.iadd, 1) := by decide +kernel
theorem dL_law_252 : decode cL_law 252 = .ok (.iaload, 1) := by decide +kernel
theorem dL_law_253 : decode cL_law 253 = .ok (.invokevirtual 18, 3) := by decide +kernel
theorem dL_law_256 : decode cL_law 256 = .ok (.aload_n 2, 1) := by decide +kernel
theorem dL_law_257 : decode cL_law 257 = .ok (.aload_n 0, 1) := by decide +kernel
theorem dL_law_258 : decode cL_law 258 = .ok (.iload_n 3, 1) := by decide +kernel
theorem dL_law_259 : decode cL_law 259 = .ok (.iconst 1, 1) := by decide +kernel
theorem dL_law_260 : decode cL_law 260 = .ok (.iadd, 1) := by decide +kernel
theorem dL_law_261 : decode cL_law 261 = .ok (.iaload, 1) := by decide +kernel
theorem dL_law_262 : decode cL_law 262 = .ok (.aload_n 0, 1) := by decide +kernel
theorem dL_law_263 : decode cL_law 263 = .ok (.iload_n 3, 1) := by decide +kernel
theorem dL_law_264 : decode cL_law 264 = .ok (.iconst 2, 1) := by decide +kernel
theorem dL_law_265 : decode cL_law 265 = .ok (.iadd, 1) := by decide +kernel
theorem dL_law_266 : decode cL_law 266 = .ok (.iaload, 1) := by decide +kernel
theorem dL_law_267 : decode cL_law 267 = .ok (.aload_n 0, 1) := by decide +kernel
theorem dL_law_268 : decode cL_law 268 = .ok (.iload_n 3, 1) := by decide +kernel
theorem dL_law_269 : decode cL_law 269 = .ok (.iconst 3, 1) := by decide +kernel
theorem dL_law_270 : decode cL_law 270 = .ok (.iadd, 1) := by decide +kernel
theorem dL_law_271 : decode cL_law 271 = .ok (.iaload, 1) := by decide +kernel
theorem dL_law_272 : decode cL_law 272 = .ok (.invokevirtual 22, 3) := by decide +kernel
theorem dL_law_275 : decode cL_law 275 = .ok (.if_icmp .eq 1453, 3) := by decide +kernel
theorem dL_law_278 : decode cL_law 278 = .ok (.iconst 0, 1) := by decide +kernel
theorem dL_law_279 : decode cL_law 279 = .ok (.ireturn, 1) := by decide +kernel
theorem dL_law_280 : decode cL_law 280 = .ok (.aload_n 1, 1) := by decide +kernel
theorem dL_law_281 : decode cL_law 281 = .ok (.aload_n 0, 1) := by decide +kernel
theorem dL_law_282 : decode cL_law 282 = .ok (.iload_n 3, 1) := by decide +kernel
theorem dL_law_283 : decode cL_law 283 = .ok (.iconst 1, 1) := by decide +kernel
theorem dL_law_284 : decode cL_law 284 = .ok (.iadd, 1) := by decide +kernel
theorem dL_law_285 : decode cL_law 285 = .ok (.iaload, 1) := by decide +kernel
theorem dL_law_286 : decode cL_law 286 = .ok (.aload_n 0, 1) := by decide +kernel
theorem dL_law_287 : decode cL_law 287 = .ok (.iload_n 3, 1) := by decide +kernel
theorem dL_law_288 : decode cL_law 288 = .ok (.iconst 2, 1) := by decide +kernel
theorem dL_law_289 : decode cL_law 289 = .ok (.iadd, 1) := by decide +kernel
theorem dL_law_290 : decode cL_law 290 = .ok (.iaload, 1) := by decide +kernel
theorem dL_law_291 : decode cL_law 291 = .ok (.invokevirtual 23, 3) := by decide +kernel
theorem dL_law_294 : decode cL_law 294 = .ok (.aload_n 2, 1) := by decide +kernel
theorem dL_law_295 : decode cL_law 295 = .ok (.aload_n 0, 1) := by decide +kernel
theorem dL_law_296 : decode cL_law 296 = .ok (.iload_n 3, 1) := by decide +kernel
theorem dL_law_297 : decode cL_law 297 = .ok (.iconst 1, 1) := by decide +kernel
theorem dL_law_298 : decode cL_law 298 = .ok (.iadd, 1) := by decide +kernel
theorem dL_law_299 : decode cL_law 299 = .ok (.iaload, 1) := by decide +kernel
theorem dL_law_300 : decode cL_law 300 = .ok (.aload_n 0, 1) := by decide +kernel
theorem dL_law_301 : decode cL_law 301 = .ok (.iload_n 3, 1) := by decide +kernel
theorem dL_law_302 : decode cL_law 302 = .ok (.iconst 2, 1) := by decide +kernel
theorem dL_law_303 : decode cL_law 303 = .ok (.iadd, 1) := by decide +kernel
theorem dL_law_304 : decode cL_law 304 = .ok (.iaload, 1) := by decide +kernel
theorem dL_law_305 : decode cL_law 305 = .ok (.invokevirtual 27, 3) := by decide +kernel
theorem dL_law_308 : decode cL_law 308 = .ok (.if_icmp .eq 1420, 3) := by decide +kernel
theorem dL_law_311 : decode cL_law 311 = .ok (.iconst 0, 1) := by decide +kernel
theorem dL_law_312 : decode cL_law 312 = .ok (.ireturn, 1) := by decide +kernel
theorem dL_law_313 : decode cL_law 313 = .ok (.aload_n 1, 1) := by decide +kernel
theorem dL_law_314 : decode cL_law 314 = .ok (.aload_n 0, 1) := by decide +kernel
theorem dL_law_315 : decode cL_law 315 = .ok (.iload_n 3, 1) := by decide +kernel
theorem dL_law_316 : decode cL_law 316 = .ok (.iconst 1, 1) := by decide +kernel
theorem dL_law_317 : decode cL_law 317 = .ok (.iadd, 1) := by decide +kernel
theorem dL_law_318 : decode cL_law 318 = .ok (.iaload, 1) := by decide +kernel
theorem dL_law_319 : decode cL_law 319 = .ok (.aload_n 0, 1) := by decide +kernel
theorem dL_law_320 : decode cL_law 320 = .ok (.iload_n 3, 1) := by decide +kernel
theorem dL_law_321 : decode cL_law 321 = .ok (.iconst 2, 1) := by decide +kernel
theorem dL_law_322 : decode cL_law 322 = .ok (.iadd, 1) := by decide +kernel
theorem dL_law_323 : decode cL_law 323 = .ok (.iaload, 1) := by decide +kernel
theorem dL_law_324 : decode cL_law 324 = .ok (.aload_n 0, 1) := by decide +kernel
theorem dL_law_325 : decode cL_law 325 = .ok (.iload_n 3, 1) := by decide +kernel
theorem dL_law_326 : decode cL_law 326 = .ok (.iconst 3, 1) := by decide +kernel
theorem dL_law_327 : decode cL_law 327 = .ok (.iadd, 1) := by decide +kernel
theorem dL_law_328 : decode cL_law 328 = .ok (.iaload, 1) := by decide +kernel
theorem dL_law_329 : decode cL_law 329 = .ok (.invokevirtual 28, 3) := by decide +kernel
theorem dL_law_332 : decode cL_law 332 = .ok (.aload_n 2, 1) := by decide +kernel
theorem dL_law_333 : decode cL_law 333 = .ok (.aload_n 0, 1) := by decide +kernel
theorem dL_law_334 : decode cL_law 334 = .ok (.iload_n 3, 1) := by decide +kernel
theorem dL_law_335 : decode cL_law 335 = .ok (.iconst 1, 1) := by decide +kernel
theorem dL_law_336 : decode cL_law 336 = .ok (.iadd, 1) := by decide +kernel
theorem dL_law_337 : decode cL_law 337 = .ok (.iaload, 1) := by decide +kernel
theorem dL_law_338 : decode cL_law 338 = .ok (.aload_n 0, 1) := by decide +kernel
theorem dL_law_339 : decode cL_law 339 = .ok (.iload_n 3, 1) := by decide +kernel
theorem dL_law_340 : decode cL_law 340 = .ok (.iconst 2, 1) := by decide +kernel
theorem dL_law_341 : decode cL_law 341 = .ok (.iadd, 1) := by decide +kernel
theorem dL_law_342 : decode cL_law 342 = .ok (.iaload, 1) := by decide +kernel
theorem dL_law_343 : decode cL_law 343 = .ok (.aload_n 0, 1) := by decide +kernel
theorem dL_law_344 : decode cL_law 344 = .ok (.iload_n 3, 1) := by decide +kernel
theorem dL_law_345 : decode cL_law 345 = .ok (.iconst 3, 1) := by decide +kernel
theorem dL_law_346 : decode cL_law 346 = .ok (.iadd, 1) := by decide +kernel
theorem dL_law_347 : decode cL_law 347 = .ok (.iaload, 1) := by decide +kernel
theorem dL_law_348 : decode cL_law 348 = .ok (.invokevirtual 31, 3) := by decide +kernel
theorem dL_law_351 : decode cL_law 351 = .ok (.if_icmp .eq 1377, 3) := by decide +kernel
theorem dL_law_354 : decode cL_law 354 = .ok (.iconst 0, 1) := by decide +kernel
theorem dL_law_355 : decode cL_law 355 = .ok (.ireturn, 1) := by decide +kernel
theorem dL_law_356 : decode cL_law 356 = .ok (.aload_n 1, 1) := by decide +kernel
theorem dL_law_357 : decode cL_law 357 = .ok (.aload_n 0, 1) := by decide +kernel
theorem dL_law_358 : decode cL_law 358 = .ok (.iload_n 3, 1) := by decide +kernel
theorem dL_law_359 : decode cL_law 359 = .ok (.iconst 1, 1) := by decide +kernel
theorem dL_law_360 : decode cL_law 360 = .ok (.iadd, 1) := by decide +kernel
theorem dL_law_361 : decode cL_law 361 = .ok (.iaload, 1) := by decide +kernel
theorem dL_law_362 : decode cL_law 362 = .ok (.aload_n 0, 1) := by decide +kernel
theorem dL_law_363 : decode cL_law 363 = .ok (.iload_n 3, 1) := by decide +kernel
theorem dL_law_364 : decode cL_law 364 = .ok (.iconst 2, 1) := by decide +kernel
theorem dL_law_365 : decode cL_law 365 = .ok (.iadd, 1) := by decide +kernel
theorem dL_law_366 : decode cL_law 366 = .ok (.iaload, 1) := by decide +kernel
theorem dL_law_367 : decode cL_law 367 = .ok (.invokevirtual 32, 3) := by decide +kernel
theorem dL_law_370 : decode cL_law 370 = .ok (.aload_n 2, 1) := by decide +kernel
theorem dL_law_371 : decode cL_law 371 = .ok (.aload_n 0, 1) := by decide +kernel
theorem dL_law_372 : decode cL_law 372 = .ok (.iload_n 3, 1) := by decide +kernel
theorem dL_law_373 : decode cL_law 373 = .ok (.iconst 1, 1) := by decide +kernel
theorem dL_law_374 : decode cL_law 374 = .ok (.iadd, 1) := by decide +kernel
theorem dL_law_375 : decode cL_law 375 = .ok (.iaload, 1) := by decide +kernel
theorem dL_law_376 : decode cL_law 376 = .ok (.aload_n 0, 1) := by decide +kernel
theorem dL_law_377 : decode cL_law 377 = .ok (.iload_n 3, 1) := by decide +kernel
theorem dL_law_378 : decode cL_law 378 = .ok (.iconst 2, 1) := by decide +kernel
theorem dL_law_379 : decode cL_law 379 = .ok (.iadd, 1) := by decide +kernel
theorem dL_law_380 : decode cL_law 380 = .ok (.iaload, 1) := by decide +kernel
theorem dL_law_381 : decode cL_law 381 = .ok (.invokevirtual 35, 3) := by decide +kernel
theorem dL_law_384 : decode cL_law 384 = .ok (.if_icmp .eq 1344, 3) := by decide +kernel
theorem dL_law_387 : decode cL_law 387 = .ok (.iconst 0, 1) := by decide +kernel
theorem dL_law_388 : decode cL_law 388 = .ok (.ireturn, 1) := by decide +kernel
theorem dL_law_389 : decode cL_law 389 = .ok (.aload_n 1, 1) := by decide +kernel
theorem dL_law_390 : decode cL_law 390 = .ok (.aload_n 0, 1) := by decide +kernel
theorem dL_law_391 : decode cL_law 391 = .ok (.iload_n 3, 1) := by decide +kernel
theorem dL_law_392 : decode cL_law 392 = .ok (.iconst 1, 1) := by decide +kernel
theorem dL_law_393 : decode cL_law 393 = .ok (.iadd, 1) := by decide +kernel
theorem dL_law_394 : decode cL_law 394 = .ok (.iaload, 1) := by decide +kernel
theorem dL_law_395 : decode cL_law 395 = .ok (.invokevirtual 36, 3) := by decide +kernel
theorem dL_law_398 : decode cL_law 398 = .ok (.aload_n 2, 1) := by decide +kernel
theorem dL_law_399 : decode cL_law 399 = .ok (.aload_n 0, 1) := by decide +kernel
theorem dL_law_400 : decode cL_law 400 = .ok (.iload_n 3, 1) := by decide +kernel
theorem dL_law_401 : decode cL_law 401 = .ok (.iconst 1, 1) := by decide +kernel
theorem dL_law_402 : decode cL_law 402 = .ok (.iadd, 1) := by decide +kernel
theorem dL_law_403 : decode cL_law 403 = .ok (.iaload, 1) := by decide +kernel
theorem dL_law_404 : decode cL_law 404 = .ok (.invokevirtual 40, 3) := by decide +kernel
theorem dL_law_407 : decode cL_law 407 = .ok (.if_icmp .eq 1321, 3) := by decide +kernel
theorem dL_law_410 : decode cL_law 410 = .ok (.iconst 0, 1) := by decide +kernel
theorem dL_law_411 : decode cL_law 411 = .ok (.ireturn, 1) := by decide +kernel
theorem dL_law_412 : decode cL_law 412 = .ok (.aload_n 1, 1) := by decide +kernel
theorem dL_law_413 : decode cL_law 413 = .ok (.aload_n 0, 1) := by decide +kernel
theorem dL_law_414 : decode cL_law 414 = .ok (.iload_n 3, 1) := by decide +kernel
theorem dL_law_415 : decode cL_law 415 = .ok (.iconst 1, 1) := by decide +kernel
theorem dL_law_416 : decode cL_law 416 = .ok (.iadd, 1) := by decide +kernel
theorem dL_law_417 : decode cL_law 417 = .ok (.iaload, 1) := by decide +kernel
theorem dL_law_418 : decode cL_law 418 = .ok (.aload_n 0, 1) := by decide +kernel
theorem dL_law_419 : decode cL_law 419 = .ok (.iload_n 3, 1) := by decide +kernel
theorem dL_law_420 : decode cL_law 420 = .ok (.iconst 2, 1) := by decide +kernel
theorem dL_law_421 : decode cL_law 421 = .ok (.iadd, 1) := by decide +kernel
theorem dL_law_422 : decode cL_law 422 = .ok (.iaload, 1) := by decide +kernel
theorem dL_law_423 : decode cL_law 423 = .ok (.aload_n 0, 1) := by decide +kernel
theorem dL_law_424 : decode cL_law 424 = .ok (.iload_n 3, 1) := by decide +kernel
theorem dL_law_425 : decode cL_law 425 = .ok (.iconst 3, 1) := by decide +kernel
theorem dL_law_426 : decode cL_law 426 = .ok (.iadd, 1) := by decide +kernel
theorem dL_law_427 : decode cL_law 427 = .ok (.iaload, 1) := by decide +kernel
theorem dL_law_428 : decode cL_law 428 = .ok (.invokevirtual 41, 3) := by decide +kernel
theorem dL_law_431 : decode cL_law 431 = .ok (.aload_n 2, 1) := by decide +kernel
theorem dL_law_432 : decode cL_law 432 = .ok (.aload_n 0, 1) := by decide +kernel
theorem dL_law_433 : decode cL_law 433 = .ok (.iload_n 3, 1) := by decide +kernel
theorem dL_law_434 : decode cL_law 434 = .ok (.iconst 1, 1) := by decide +kernel
theorem dL_law_435 : decode cL_law 435 = .ok (.iadd, 1) := by decide +kernel
theorem dL_law_436 : decode cL_law 436 = .ok (.iaload, 1) := by decide +kernel
theorem dL_law_437 : decode cL_law 437 = .ok (.aload_n 0, 1) := by decide +kernel
theorem dL_law_438 : decode cL_law 438 = .ok (.iload_n 3, 1) := by decide +kernel
theorem dL_law_439 : decode cL_law 439 = .ok (.iconst 2, 1) := by decide +kernel
theorem dL_law_440 : decode cL_law 440 = .ok (.iadd, 1) := by decide +kernel
theorem dL_law_441 : decode cL_law 441 = .ok (.iaload, 1) := by decide +kernel
theorem dL_law_442 : decode cL_law 442 = .ok (.aload_n 0, 1) := by decide +kernel
theorem dL_law_443 : decode cL_law 443 = .ok (.iload_n 3, 1) := by decide +kernel
theorem dL_law_444 : decode cL_law 444 = .ok (.iconst 3, 1) := by decide +kernel
theorem dL_law_445 : decode cL_law 445 = .ok (.iadd, 1) := by decide +kernel
theorem dL_law_446 : decode cL_law 446 = .ok (.iaload, 1) := by decide +kernel
theorem dL_law_447 : decode cL_law 447 = .ok (.invokevirtual 44, 3) := by decide +kernel
theorem dL_law_450 : decode cL_law 450 = .ok (.if_icmp .eq 1278, 3) := by decide +kernel
theorem dL_law_453 : decode cL_law 453 = .ok (.iconst 0, 1) := by decide +kernel
theorem dL_law_454 : decode cL_law 454 = .ok (.ireturn, 1) := by decide +kernel
theorem dL_law_455 : decode cL_law 455 = .ok (.aload_n 1, 1) := by decide +kernel
theorem dL_law_456 : decode cL_law 456 = .ok (.aload_n 0, 1) := by decide +kernel
theorem dL_law_457 : decode cL_law 457 = .ok (.iload_n 3, 1) := by decide +kernel
theorem dL_law_458 : decode cL_law 458 = .ok (.iconst 1, 1) := by decide +kernel
theorem dL_law_459 : decode cL_law 459 = .ok (.iadd, 1) := by decide +kernel
theorem dL_law_460 : decode cL_law 460 = .ok (.iaload, 1) := by decide +kernel
theorem dL_law_461 : decode cL_law 461 = .ok (.aload_n 0, 1) := by decide +kernel
theorem dL_law_462 : decode cL_law 462 = .ok (.iload_n 3, 1) := by decide +kernel
theorem dL_law_463 : decode cL_law 463 = .ok (.iconst 2, 1) := by decide +kernel
theorem dL_law_464 : decode cL_law 464 = .ok (.iadd, 1) := by decide +kernel
theorem dL_law_465 : decode cL_law 465 = .ok (.iaload, 1) := by decide +kernel
theorem dL_law_466 : decode cL_law 466 = .ok (.invokevirtual 45, 3) := by decide +kernel
theorem dL_law_469 : decode cL_law 469 = .ok (.aload_n 2, 1) := by decide +kernel
theorem dL_law_470 : decode cL_law 470 = .ok (.aload_n 0, 1) := by decide +kernel
theorem dL_law_471 : decode cL_law 471 = .ok (.iload_n 3, 1) := by decide +kernel
theorem dL_law_472 : decode cL_law 472 = .ok (.iconst 1, 1) := by decide +kernel
theorem dL_law_473 : decode cL_law 473 = .ok (.iadd, 1) := by decide +kernel
theorem dL_law_474 : decode cL_law 474 = .ok (.iaload, 1) := by decide +kernel
theorem dL_law_475 : decode cL_law 475 = .ok (.aload_n 0, 1) := by decide +kernel
theorem dL_law_476 : decode cL_law 476 = .ok (.iload_n 3, 1) := by decide +kernel
theorem dL_law_477 : decode cL_law 477 = .ok (.iconst 2, 1) := by decide +kernel
theorem dL_law_478 : decode cL_law 478 = .ok (.iadd, 1) := by decide +kernel
theorem dL_law_479 : decode cL_law 479 = .ok (.iaload, 1) := by decide +kernel
theorem dL_law_480 : decode cL_law 480 = .ok (.invokevirtual 48, 3) := by decide +kernel
theorem dL_law_483 : decode cL_law 483 = .ok (.if_icmp .eq 1245, 3) := by decide +kernel
theorem dL_law_486 : decode cL_law 486 = .ok (.iconst 0, 1) := by decide +kernel
theorem dL_law_487 : decode cL_law 487 = .ok (.ireturn, 1) := by decide +kernel
theorem dL_law_488 : decode cL_law 488 = .ok (.aload_n 1, 1) := by decide +kernel
theorem dL_law_489 : decode cL_law 489 = .ok (.aload_n 0, 1) := by decide +kernel
theorem dL_law_490 : decode cL_law 490 = .ok (.iload_n 3, 1) := by decide +kernel
theorem dL_law_491 : decode cL_law 491 = .ok (.iconst 1, 1) := by decide +kernel
theorem dL_law_492 : decode cL_law 492 = .ok (.iadd, 1) := by decide +kernel
theorem dL_law_493 : decode cL_law 493 = .ok (.iaload, 1) := by decide +kernel
theorem dL_law_494 : decode cL_law 494 = .ok (.invokevirtual 49, 3) := by decide +kernel
theorem dL_law_497 : decode cL_law 497 = .ok (.aload_n 2, 1) := by decide +kernel
theorem dL_law_498 : decode cL_law 498 = .ok (.aload_n 0, 1) := by decide +kernel
theorem dL_law_499 : decode cL_law 499 = .ok (.iload_n 3, 1) := by decide +kernel
theorem dL_law_500 : decode cL_law 500 = .ok (.iconst 1, 1) := by decide +kernel
theorem dL_law_501 : decode cL_law 501 = .ok (.iadd, 1) := by decide +kernel
theorem dL_law_502 : decode cL_law 502 = .ok (.iaload, 1) := by decide +kernel
theorem dL_law_503 : decode cL_law 503 = .ok (.invokevirtual 52, 3) := by decide +kernel
theorem dL_law_506 : decode cL_law 506 = .ok (.if_icmp .eq 1222, 3) := by decide +kernel
theorem dL_law_509 : decode cL_law 509 = .ok (.iconst 0, 1) := by decide +kernel
theorem dL_law_510 : decode cL_law 510 = .ok (.ireturn, 1) := by decide +kernel
theorem dL_law_511 : decode cL_law 511 = .ok (.aload_n 1, 1) := by decide +kernel
theorem dL_law_512 : decode cL_law 512 = .ok (.aload_n 0, 1) := by decide +kernel
theorem dL_law_513 : decode cL_law 513 = .ok (.iload_n 3, 1) := by decide +kernel
theorem dL_law_514 : decode cL_law 514 = .ok (.iconst 1, 1) := by decide +kernel
theorem dL_law_515 : decode cL_law 515 = .ok (.iadd, 1) := by decide +kernel
theorem dL_law_516 : decode cL_law 516 = .ok (.iaload, 1) := by decide +kernel
theorem dL_law_517 : decode cL_law 517 = .ok (.aload_n 0, 1) := by decide +kernel
theorem dL_law_518 : decode cL_law 518 = .ok (.iload_n 3, 1) := by decide +kernel
theorem dL_law_519 : decode cL_law 519 = .ok (.iconst 2, 1) := by decide +kernel
theorem dL_law_520 : decode cL_law 520 = .ok (.iadd, 1) := by decide +kernel
theorem dL_law_521 : decode cL_law 521 = .ok (.iaload, 1) := by decide +kernel
theorem dL_law_522 : decode cL_law 522 = .ok (.invokevirtual 53, 3) := by decide +kernel
theorem dL_law_525 : decode cL_law 525 = .ok (.aload_n 2, 1) := by decide +kernel
theorem dL_law_526 : decode cL_law 526 = .ok (.aload_n 0, 1) := by decide +kernel
theorem dL_law_527 : decode cL_law 527 = .ok (.iload_n 3, 1) := by decide +kernel
theorem dL_law_528 : decode cL_law 528 = .ok (.iconst 1, 1) := by decide +kernel
theorem dL_law_529 : decode cL_law 529 = .ok (.iadd, 1) := by decide +kernel
theorem dL_law_530 : decode cL_law 530 = .ok (.iaload, 1) := by decide +kernel
theorem dL_law_531 : decode cL_law 531 = .ok (.aload_n 0, 1) := by decide +kernel
theorem dL_law_532 : decode cL_law 532 = .ok (.iload_n 3, 1) := by decide +kernel
theorem dL_law_533 : decode cL_law 533 = .ok (.iconst 2, 1) := by decide +kernel
theorem dL_law_534 : decode cL_law 534 = .ok (.iadd, 1) := by decide +kernel
theorem dL_law_535 : decode cL_law 535 = .ok (.iaload, 1) := by decide +kernel
theorem dL_law_536 : decode cL_law 536 = .ok (.invokevirtual 56, 3) := by decide +kernel
theorem dL_law_539 : decode cL_law 539 = .ok (.if_icmp .eq 1189, 3) := by decide +kernel
theorem dL_law_542 : decode cL_law 542 = .ok (.iconst 0, 1) := by decide +kernel
theorem dL_law_543 : decode cL_law 543 = .ok (.ireturn, 1) := by decide +kernel
theorem dL_law_544 : decode cL_law 544 = .ok (.aload_n 1, 1) := by decide +kernel
theorem dL_law_545 : decode cL_law 545 = .ok (.aload_n 0, 1) := by decide +kernel
theorem dL_law_546 : decode cL_law 546 = .ok (.iload_n 3, 1) := by decide +kernel
theorem dL_law_547 : decode cL_law 547 = .ok (.iconst 1, 1) := by decide +kernel
theorem dL_law_548 : decode cL_law 548 = .ok (.iadd, 1) := by decide +kernel
theorem dL_law_549 : decode cL_law 549 = .ok (.iaload, 1) := by decide +kernel
theorem dL_law_550 : decode cL_law 550 = .ok (.invokevirtual 57, 3) := by decide +kernel
theorem dL_law_553 : decode cL_law 553 = .ok (.aload_n 2, 1) := by decide +kernel
theorem dL_law_554 : decode cL_law 554 = .ok (.aload_n 0, 1) := by decide +kernel
theorem dL_law_555 : decode cL_law 555 = .ok (.iload_n 3, 1) := by decide +kernel
theorem dL_law_556 : decode cL_law 556 = .ok (.iconst 1, 1) := by decide +kernel
theorem dL_law_557 : decode cL_law 557 = .ok (.iadd, 1) := by decide +kernel
theorem dL_law_558 : decode cL_law 558 = .ok (.iaload, 1) := by decide +kernel
theorem dL_law_559 : decode cL_law 559 = .ok (.invokevirtual 60, 3) := by decide +kernel
theorem dL_law_562 : decode cL_law 562 = .ok (.if_icmp .eq 1166, 3) := by decide +kernel
theorem dL_law_565 : decode cL_law 565 = .ok (.iconst 0, 1) := by decide +kernel
theorem dL_law_566 : decode cL_law 566 = .ok (.ireturn, 1) := by decide +kernel
theorem dL_law_567 : decode cL_law 567 = .ok (.aload_n 1, 1) := by decide +kernel
theorem dL_law_568 : decode cL_law 568 = .ok (.aload_n 0, 1) := by decide +kernel
theorem dL_law_569 : decode cL_law 569 = .ok (.iload_n 3, 1) := by decide +kernel
theorem dL_law_570 : decode cL_law 570 = .ok (.iconst 1, 1) := by decide +kernel
theorem dL_law_571 : decode cL_law 571 = .ok (.iadd, 1) := by decide +kernel
theorem dL_law_572 : decode cL_law 572 = .ok (.iaload, 1) := by decide +kernel
theorem dL_law_573 : decode cL_law 573 = .ok (.aload_n 0, 1) := by decide +kernel
theorem dL_law_574 : decode cL_law 574 = .ok (.iload_n 3, 1) := by decide +kernel
theorem dL_law_575 : decode cL_law 575 = .ok (.iconst 2, 1) := by decide +kernel
theorem dL_law_576 : decode cL_law 576 = .ok (.iadd, 1) := by decide +kernel
theorem dL_law_577 : decode cL_law 577 = .ok (.iaload, 1) := by decide +kernel
theorem dL_law_578 : decode cL_law 578 = .ok (.aload_n 0, 1) := by decide +kernel
theorem dL_law_579 : decode cL_law 579 = .ok (.iload_n 3, 1) := by decide +kernel
theorem dL_law_580 : decode cL_law 580 = .ok (.iconst 3, 1) := by decide +kernel
theorem dL_law_581 : decode cL_law 581 = .ok (.iadd, 1) := by decide +kernel
theorem dL_law_582 : decode cL_law 582 = .ok (.iaload, 1) := by decide +kernel
theorem dL_law_583 : decode cL_law 583 = .ok (.invokevirtual 61, 3) := by decide +kernel
theorem dL_law_586 : decode cL_law 586 = .ok (.aload_n 2, 1) := by decide +kernel
theorem dL_law_587 : decode cL_law 587 = .ok (.aload_n 0, 1) := by decide +kernel
theorem dL_law_588 : decode cL_law 588 = .ok (.iload_n 3, 1) := by decide +kernel
theorem dL_law_589 : decode cL_law 589 = .ok (.iconst 1, 1) := by decide +kernel
theorem dL_law_590 : decode cL_law 590 = .ok (.iadd, 1) := by decide +kernel
theorem dL_law_591 : decode cL_law 591 = .ok (.iaload, 1) := by decide +kernel
theorem dL_law_592 : decode cL_law 592 = .ok (.aload_n 0, 1) := by decide +kernel
theorem dL_law_593 : decode cL_law 593 = .ok (.iload_n 3, 1) := by decide +kernel
theorem dL_law_594 : decode cL_law 594 = .ok (.iconst 2, 1) := by decide +kernel
theorem dL_law_595 : decode cL_law 595 = .ok (.iadd, 1) := by decide +kernel
theorem dL_law_596 : decode cL_law 596 = .ok (.iaload, 1) := by decide +kernel
theorem dL_law_597 : decode cL_law 597 = .ok (.aload_n 0, 1) := by decide +kernel
theorem dL_law_598 : decode cL_law 598 = .ok (.iload_n 3, 1) := by decide +kernel
theorem dL_law_599 : decode cL_law 599 = .ok (.iconst 3, 1) := by decide +kernel
theorem dL_law_600 : decode cL_law 600 = .ok (.iadd, 1) := by decide +kernel
theorem dL_law_601 : decode cL_law 601 = .ok (.iaload, 1) := by decide +kernel
theorem dL_law_602 : decode cL_law 602 = .ok (.invokevirtual 64, 3) := by decide +kernel
theorem dL_law_605 : decode cL_law 605 = .ok (.if_icmp .eq 1123, 3) := by decide +kernel
theorem dL_law_608 : decode cL_law 608 = .ok (.iconst 0, 1) := by decide +kernel
theorem dL_law_609 : decode cL_law 609 = .ok (.ireturn, 1) := by decide +kernel
theorem dL_law_610 : decode cL_law 610 = .ok (.aload_n 1, 1) := by decide +kernel
theorem dL_law_611 : decode cL_law 611 = .ok (.aload_n 0, 1) := by decide +kernel
theorem dL_law_612 : decode cL_law 612 = .ok (.iload_n 3, 1) := by decide +kernel
theorem dL_law_613 : decode cL_law 613 = .ok (.iconst 1, 1) := by decide +kernel
theorem dL_law_614 : decode cL_law 614 = .ok (.iadd, 1) := by decide +kernel
theorem dL_law_615 : decode cL_law 615 = .ok (.iaload, 1) := by decide +kernel
theorem dL_law_616 : decode cL_law 616 = .ok (.aload_n 0, 1) := by decide +kernel
theorem dL_law_617 : decode cL_law 617 = .ok (.iload_n 3, 1) := by decide +kernel
theorem dL_law_618 : decode cL_law 618 = .ok (.iconst 2, 1) := by decide +kernel
theorem dL_law_619 : decode cL_law 619 = .ok (.iadd, 1) := by decide +kernel
theorem dL_law_620 : decode cL_law 620 = .ok (.iaload, 1) := by decide +kernel
theorem dL_law_621 : decode cL_law 621 = .ok (.aload_n 0, 1) := by decide +kernel
theorem dL_law_622 : decode cL_law 622 = .ok (.iload_n 3, 1) := by decide +kernel
theorem dL_law_623 : decode cL_law 623 = .ok (.iconst 3, 1) := by decide +kernel
theorem dL_law_624 : decode cL_law 624 = .ok (.iadd, 1) := by decide +kernel
theorem dL_law_625 : decode cL_law 625 = .ok (.iaload, 1) := by decide +kernel
theorem dL_law_626 : decode cL_law 626 = .ok (.invokevirtual 65, 3) := by decide +kernel
theorem dL_law_629 : decode cL_law 629 = .ok (.aload_n 2, 1) := by decide +kernel
theorem dL_law_630 : decode cL_law 630 = .ok (.aload_n 0, 1) := by decide +kernel
theorem dL_law_631 : decode cL_law 631 = .ok (.iload_n 3, 1) := by decide +kernel
theorem dL_law_632 : decode cL_law 632 = .ok (.iconst 1, 1) := by decide +kernel
theorem dL_law_633 : decode cL_law 633 = .ok (.iadd, 1) := by decide +kernel
theorem dL_law_634 : decode cL_law 634 = .ok (.iaload, 1) := by decide +kernel
theorem dL_law_635 : decode cL_law 635 = .ok (.aload_n 0, 1) := by decide +kernel
theorem dL_law_636 : decode cL_law 636 = .ok (.iload_n 3, 1) := by decide +kernel
theorem dL_law_637 : decode cL_law 637 = .ok (.iconst 2, 1) := by decide +kernel
theorem dL_law_638 : decode cL_law 638 = .ok (.iadd, 1) := by decide +kernel
theorem dL_law_639 : decode cL_law 639 = .ok (.iaload, 1) := by decide +kernel
theorem dL_law_640 : decode cL_law 640 = .ok (.aload_n 0, 1) := by decide +kernel
theorem dL_law_641 : decode cL_law 641 = .ok (.iload_n 3, 1) := by decide +kernel
theorem dL_law_642 : decode cL_law 642 = .ok (.iconst 3, 1) := by decide +kernel
theorem dL_law_643 : decode cL_law 643 = .ok (.iadd, 1) := by decide +kernel
theorem dL_law_644 : decode cL_law 644 = .ok (.iaload, 1) := by decide +kernel
theorem dL_law_645 : decode cL_law 645 = .ok (.invokevirtual 68, 3) := by decide +kernel
theorem dL_law_648 : decode cL_law 648 = .ok (.if_icmp .eq 1080, 3) := by decide +kernel
theorem dL_law_651 : decode cL_law 651 = .ok (.iconst 0, 1) := by decide +kernel
theorem dL_law_652 : decode cL_law 652 = .ok (.ireturn, 1) := by decide +kernel
theorem dL_law_653 : decode cL_law 653 = .ok (.aload_n 1, 1) := by decide +kernel
theorem dL_law_654 : decode cL_law 654 = .ok (.aload_n 0, 1) := by decide +kernel
theorem dL_law_655 : decode cL_law 655 = .ok (.iload_n 3, 1) := by decide +kernel
theorem dL_law_656 : decode cL_law 656 = .ok (.iconst 1, 1) := by decide +kernel
theorem dL_law_657 : decode cL_law 657 = .ok (.iadd, 1) := by decide +kernel
theorem dL_law_658 : decode cL_law 658 = .ok (.iaload, 1) := by decide +kernel
theorem dL_law_659 : decode cL_law 659 = .ok (.aload_n 0, 1) := by decide +kernel
theorem dL_law_660 : decode cL_law 660 = .ok (.iload_n 3, 1) := by decide +kernel
theorem dL_law_661 : decode cL_law 661 = .ok (.iconst 2, 1) := by decide +kernel
theorem dL_law_662 : decode cL_law 662 = .ok (.iadd, 1) := by decide +kernel
theorem dL_law_663 : decode cL_law 663 = .ok (.iaload, 1) := by decide +kernel
theorem dL_law_664 : decode cL_law 664 = .ok (.aload_n 0, 1) := by decide +kernel
theorem dL_law_665 : decode cL_law 665 = .ok (.iload_n 3, 1) := by decide +kernel
theorem dL_law_666 : decode cL_law 666 = .ok (.iconst 3, 1) := by decide +kernel
theorem dL_law_667 : decode cL_law 667 = .ok (.iadd, 1) := by decide +kernel
theorem dL_law_668 : decode cL_law 668 = .ok (.iaload, 1) := by decide +kernel
theorem dL_law_669 : decode cL_law 669 = .ok (.invokevirtual 69, 3) := by decide +kernel
theorem dL_law_672 : decode cL_law 672 = .ok (.aload_n 2, 1) := by decide +kernel
theorem dL_law_673 : decode cL_law 673 = .ok (.aload_n 0, 1) := by decide +kernel
theorem dL_law_674 : decode cL_law 674 = .ok (.iload_n 3, 1) := by decide +kernel
theorem dL_law_675 : decode cL_law 675 = .ok (.iconst 1, 1) := by decide +kernel
theorem dL_law_676 : decode cL_law 676 = .ok (.iadd, 1) := by decide +kernel
theorem dL_law_677 : decode cL_law 677 = .ok (.iaload, 1) := by decide +kernel
theorem dL_law_678 : decode cL_law 678 = .ok (.aload_n 0, 1) := by decide +kernel
theorem dL_law_679 : decode cL_law 679 = .ok (.iload_n 3, 1) := by decide +kernel
theorem dL_law_680 : decode cL_law 680 = .ok (.iconst 2, 1) := by decide +kernel
theorem dL_law_681 : decode cL_law 681 = .ok (.iadd, 1) := by decide +kernel
theorem dL_law_682 : decode cL_law 682 = .ok (.iaload, 1) := by decide +kernel
theorem dL_law_683 : decode cL_law 683 = .ok (.aload_n 0, 1) := by decide +kernel
theorem dL_law_684 : decode cL_law 684 = .ok (.iload_n 3, 1) := by decide +kernel
theorem dL_law_685 : decode cL_law 685 = .ok (.iconst 3, 1) := by decide +kernel
theorem dL_law_686 : decode cL_law 686 = .ok (.iadd, 1) := by decide +kernel
theorem dL_law_687 : decode cL_law 687 = .ok (.iaload, 1) := by decide +kernel
theorem dL_law_688 : decode cL_law 688 = .ok (.invokevirtual 72, 3) := by decide +kernel
theorem dL_law_691 : decode cL_law 691 = .ok (.if_icmp .eq 1037, 3) := by decide +kernel
theorem dL_law_694 : decode cL_law 694 = .ok (.iconst 0, 1) := by decide +kernel
theorem dL_law_695 : decode cL_law 695 = .ok (.ireturn, 1) := by decide +kernel
theorem dL_law_696 : decode cL_law 696 = .ok (.aload_n 1, 1) := by decide +kernel
theorem dL_law_697 : decode cL_law 697 = .ok (.aload_n 0, 1) := by decide +kernel
theorem dL_law_698 : decode cL_law 698 = .ok (.iload_n 3, 1) := by decide +kernel
theorem dL_law_699 : decode cL_law 699 = .ok (.iconst 1, 1) := by decide +kernel
theorem dL_law_700 : decode cL_law 700 = .ok (.iadd, 1) := by decide +kernel
theorem dL_law_701 : decode cL_law 701 = .ok (.iaload, 1) := by decide +kernel
theorem dL_law_702 : decode cL_law 702 = .ok (.aload_n 0, 1) := by decide +kernel
theorem dL_law_703 : decode cL_law 703 = .ok (.iload_n 3, 1) := by decide +kernel
theorem dL_law_704 : decode cL_law 704 = .ok (.iconst 2, 1) := by decide +kernel
theorem dL_law_705 : decode cL_law 705 = .ok (.iadd, 1) := by decide +kernel
theorem dL_law_706 : decode cL_law 706 = .ok (.iaload, 1) := by decide +kernel
theorem dL_law_707 : decode cL_law 707 = .ok (.aload_n 0, 1) := by decide +kernel
theorem dL_law_708 : decode cL_law 708 = .ok (.iload_n 3, 1) := by decide +kernel
theorem dL_law_709 : decode cL_law 709 = .ok (.iconst 3, 1) := by decide +kernel
theorem dL_law_710 : decode cL_law 710 = .ok (.iadd, 1) := by decide +kernel
theorem dL_law_711 : decode cL_law 711 = .ok (.iaload, 1) := by decide +kernel
theorem dL_law_712 : decode cL_law 712 = .ok (.invokevirtual 73, 3) := by decide +kernel
theorem dL_law_715 : decode cL_law 715 = .ok (.aload_n 2, 1) := by decide +kernel
theorem dL_law_716 : decode cL_law 716 = .ok (.aload_n 0, 1) := by decide +kernel
theorem dL_law_717 : decode cL_law 717 = .ok (.iload_n 3, 1) := by decide +kernel
theorem dL_law_718 : decode cL_law 718 = .ok (.iconst 1, 1) := by decide +kernel
theorem dL_law_719 : decode cL_law 719 = .ok (.iadd, 1) := by decide +kernel
theorem dL_law_720 : decode cL_law 720 = .ok (.iaload, 1) := by decide +kernel
theorem dL_law_721 : decode cL_law 721 = .ok (.aload_n 0, 1) := by decide +kernel
theorem dL_law_722 : decode cL_law 722 = .ok (.iload_n 3, 1) := by decide +kernel
theorem dL_law_723 : decode cL_law 723 = .ok (.iconst 2, 1) := by decide +kernel
theorem dL_law_724 : decode cL_law 724 = .ok (.iadd, 1) := by decide +kernel
theorem dL_law_725 : decode cL_law 725 = .ok (.iaload, 1) := by decide +kernel
theorem dL_law_726 : decode cL_law 726 = .ok (.aload_n 0, 1) := by decide +kernel
theorem dL_law_727 : decode cL_law 727 = .ok (.iload_n 3, 1) := by decide +kernel
theorem dL_law_728 : decode cL_law 728 = .ok (.iconst 3, 1) := by decide +kernel
theorem dL_law_729 : decode cL_law 729 = .ok (.iadd, 1) := by decide +kernel
theorem dL_law_730 : decode cL_law 730 = .ok (.iaload, 1) := by decide +kernel
theorem dL_law_731 : decode cL_law 731 = .ok (.invokevirtual 76, 3) := by decide +kernel
theorem dL_law_734 : decode cL_law 734 = .ok (.if_icmp .eq 994, 3) := by decide +kernel
theorem dL_law_737 : decode cL_law 737 = .ok (.iconst 0, 1) := by decide +kernel
theorem dL_law_738 : decode cL_law 738 = .ok (.ireturn, 1) := by decide +kernel
theorem dL_law_739 : decode cL_law 739 = .ok (.aload_n 1, 1) := by decide +kernel
theorem dL_law_740 : decode cL_law 740 = .ok (.aload_n 0, 1) := by decide +kernel
theorem dL_law_741 : decode cL_law 741 = .ok (.iload_n 3, 1) := by decide +kernel
theorem dL_law_742 : decode cL_law 742 = .ok (.iconst 1, 1) := by decide +kernel
theorem dL_law_743 : decode cL_law 743 = .ok (.iadd, 1) := by decide +kernel
theorem dL_law_744 : decode cL_law 744 = .ok (.iaload, 1) := by decide +kernel
theorem dL_law_745 : decode cL_law 745 = .ok (.i2l, 1) := by decide +kernel
theorem dL_law_746 : decode cL_law 746 = .ok (.bipush 32, 2) := by decide +kernel
theorem dL_law_748 : decode cL_law 748 = .ok (.lshl, 1) := by decide +kernel
theorem dL_law_749 : decode cL_law 749 = .ok (.aload_n 0, 1) := by decide +kernel
theorem dL_law_750 : decode cL_law 750 = .ok (.iload_n 3, 1) := by decide +kernel
theorem dL_law_751 : decode cL_law 751 = .ok (.iconst 2, 1) := by decide +kernel
theorem dL_law_752 : decode cL_law 752 = .ok (.iadd, 1) := by decide +kernel
theorem dL_law_753 : decode cL_law 753 = .ok (.iaload, 1) := by decide +kernel
theorem dL_law_754 : decode cL_law 754 = .ok (.i2l, 1) := by decide +kernel
theorem dL_law_755 : decode cL_law 755 = .ok (.ldc2_w 77, 3) := by decide +kernel
theorem dL_law_758 : decode cL_law 758 = .ok (.land, 1) := by decide +kernel
theorem dL_law_759 : decode cL_law 759 = .ok (.lor, 1) := by decide +kernel
theorem dL_law_760 : decode cL_law 760 = .ok (.aload_n 0, 1) := by decide +kernel
theorem dL_law_761 : decode cL_law 761 = .ok (.iload_n 3, 1) := by decide +kernel
theorem dL_law_762 : decode cL_law 762 = .ok (.iconst 3, 1) := by decide +kernel
theorem dL_law_763 : decode cL_law 763 = .ok (.iadd, 1) := by decide +kernel
theorem dL_law_764 : decode cL_law 764 = .ok (.iaload, 1) := by decide +kernel
theorem dL_law_765 : decode cL_law 765 = .ok (.invokevirtual 79, 3) := by decide +kernel
theorem dL_law_768 : decode cL_law 768 = .ok (.aload_n 2, 1) := by decide +kernel
theorem dL_law_769 : decode cL_law 769 = .ok (.aload_n 0, 1) := by decide +kernel
theorem dL_law_770 : decode cL_law 770 = .ok (.iload_n 3, 1) := by decide +kernel
theorem dL_law_771 : decode cL_law 771 = .ok (.iconst 1, 1) := by decide +kernel
theorem dL_law_772 : decode cL_law 772 = .ok (.iadd, 1) := by decide +kernel
theorem dL_law_773 : decode cL_law 773 = .ok (.iaload, 1) := by decide +kernel
theorem dL_law_774 : decode cL_law 774 = .ok (.i2l, 1) := by decide +kernel
theorem dL_law_775 : decode cL_law 775 = .ok (.bipush 32, 2) := by decide +kernel
theorem dL_law_777 : decode cL_law 777 = .ok (.lshl, 1) := by decide +kernel
theorem dL_law_778 : decode cL_law 778 = .ok (.aload_n 0, 1) := by decide +kernel
theorem dL_law_779 : decode cL_law 779 = .ok (.iload_n 3, 1) := by decide +kernel
theorem dL_law_780 : decode cL_law 780 = .ok (.iconst 2, 1) := by decide +kernel
theorem dL_law_781 : decode cL_law 781 = .ok (.iadd, 1) := by decide +kernel
theorem dL_law_782 : decode cL_law 782 = .ok (.iaload, 1) := by decide +kernel
theorem dL_law_783 : decode cL_law 783 = .ok (.i2l, 1) := by decide +kernel
theorem dL_law_784 : decode cL_law 784 = .ok (.ldc2_w 77, 3) := by decide +kernel
theorem dL_law_787 : decode cL_law 787 = .ok (.land, 1) := by decide +kernel
theorem dL_law_788 : decode cL_law 788 = .ok (.lor, 1) := by decide +kernel
theorem dL_law_789 : decode cL_law 789 = .ok (.aload_n 0, 1) := by decide +kernel
theorem dL_law_790 : decode cL_law 790 = .ok (.iload_n 3, 1) := by decide +kernel
theorem dL_law_791 : decode cL_law 791 = .ok (.iconst 3, 1) := by decide +kernel
theorem dL_law_792 : decode cL_law 792 = .ok (.iadd, 1) := by decide +kernel
theorem dL_law_793 : decode cL_law 793 = .ok (.iaload, 1) := by decide +kernel
theorem dL_law_794 : decode cL_law 794 = .ok (.invokevirtual 83, 3) := by decide +kernel
theorem dL_law_797 : decode cL_law 797 = .ok (.if_icmp .eq 931, 3) := by decide +kernel
theorem dL_law_800 : decode cL_law 800 = .ok (.iconst 0, 1) := by decide +kernel
theorem dL_law_801 : decode cL_law 801 = .ok (.ireturn, 1) := by decide +kernel
theorem dL_law_802 : decode cL_law 802 = .ok (.aload_n 1, 1) := by decide +kernel
theorem dL_law_803 : decode cL_law 803 = .ok (.aload_n 0, 1) := by decide +kernel
theorem dL_law_804 : decode cL_law 804 = .ok (.iload_n 3, 1) := by decide +kernel
theorem dL_law_805 : decode cL_law 805 = .ok (.iconst 1, 1) := by decide +kernel
theorem dL_law_806 : decode cL_law 806 = .ok (.iadd, 1) := by decide +kernel
theorem dL_law_807 : decode cL_law 807 = .ok (.iaload, 1) := by decide +kernel
theorem dL_law_808 : decode cL_law 808 = .ok (.invokevirtual 84, 3) := by decide +kernel
theorem dL_law_811 : decode cL_law 811 = .ok (.aload_n 2, 1) := by decide +kernel
theorem dL_law_812 : decode cL_law 812 = .ok (.aload_n 0, 1) := by decide +kernel
theorem dL_law_813 : decode cL_law 813 = .ok (.iload_n 3, 1) := by decide +kernel
theorem dL_law_814 : decode cL_law 814 = .ok (.iconst 1, 1) := by decide +kernel
theorem dL_law_815 : decode cL_law 815 = .ok (.iadd, 1) := by decide +kernel
theorem dL_law_816 : decode cL_law 816 = .ok (.iaload, 1) := by decide +kernel
theorem dL_law_817 : decode cL_law 817 = .ok (.invokevirtual 87, 3) := by decide +kernel
theorem dL_law_820 : decode cL_law 820 = .ok (.if_icmp .eq 908, 3) := by decide +kernel
theorem dL_law_823 : decode cL_law 823 = .ok (.iconst 0, 1) := by decide +kernel
theorem dL_law_824 : decode cL_law 824 = .ok (.ireturn, 1) := by decide +kernel
theorem dL_law_825 : decode cL_law 825 = .ok (.aload_n 1, 1) := by decide +kernel
theorem dL_law_826 : decode cL_law 826 = .ok (.aload_n 0, 1) := by decide +kernel
theorem dL_law_827 : decode cL_law 827 = .ok (.iload_n 3, 1) := by decide +kernel
theorem dL_law_828 : decode cL_law 828 = .ok (.iconst 1, 1) := by decide +kernel
theorem dL_law_829 : decode cL_law 829 = .ok (.iadd, 1) := by decide +kernel
